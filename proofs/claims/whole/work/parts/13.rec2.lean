theorem chg_rd (A : MI) (r c i : Nat) : chg A r c i = if c = 17 ∧ i = r then 1 else if c = 15 ∧ i = r then A 15 r + 1 else A c i := rfl
theorem chgTo_rd (A : MI) (r : Nat) (k : Int32) (c i : Nat) : chgTo A r k c i = if c = 17 ∧ i = r then 1 else if c = 15 ∧ i = r then A 15 r + 1 else if c = 10 ∧ i = r then k else A c i := by
  simp only [chgTo, chg_rd, up_rd]
  simp
theorem settle_rd (A : MI) (r : Nat) (k : Int32) (c i : Nat) : settle A r k c i = if c = 17 ∧ i = r then 0 else if c = 10 ∧ i = r then k else A c i := rfl
theorem bnd_rd (A : MI) (r : Nat) (x e q sn : Int32) (c i : Nat) : bnd A r x e q sn c i = if c = 18 ∧ i = r then 0 else if c = 16 ∧ i = r then sn else if c = 14 ∧ i = r then 0 else if c = 13 ∧ i = r then q else if c = 12 ∧ i = r then e else if c = 11 ∧ i = r then x else if c = 10 ∧ i = r then 2 else A c i := rfl
/-! records that hear updates; clients; messages; small methods of servers -/
def tkBound (A : MI) (r : Nat) (c e rq : Int32) : Int32 × MI :=
  if A 10 r = 0 then (1, up (bnd A r c e rq (A 15 r + 1)) 17 r 0)
  else if ¬ A 11 r = c ∨ (¬ A 10 r = 2 ∧ ¬ A 10 r = 3) then (0, A)
  else if A 10 r = 2 then (1, up (up A 13 r (gr (A 13 r) rq)) 12 r (gr (A 12 r) e))
  else if A 13 r < rq ∨ (¬ e ≤ A 12 r ∧ A 14 r = 0) then (1, up (chgTo (up (up A 13 r (gr (A 13 r) rq)) 14 r 0) r 2) 12 r (gr (A 12 r) e))
  else (1, up A 12 r (gr (A 12 r) e))
def mayEnd (A : MI) (r : Nat) (clk rel rq y : Int32) : Prop := (A 10 r = 2 ∧ (A 12 r ≤ clk ∨ (¬ rel = 0 ∧ A 13 r < rq))) ∨ (A 10 r = 3 ∧ ¬ y = 0)
theorem mayEnd_d (A : MI) (r : Nat) (clk rel rq y : Int32) : mayEnd A r clk rel rq y ∨ ¬ mayEnd A r clk rel rq y := Classical.em _
noncomputable def mayEnd1 (A : MI) (r : Nat) (clk rel rq y : Int32) : Int32 := @ite _ (mayEnd A r clk rel rq y) (Classical.propDecidable _) 1 0
noncomputable def tkEnding (A : MI) (r : Nat) (c e clk rel rq y : Int32) : Int32 × MI :=
  if A 10 r = 0 then (1, up A 12 r (gr (A 12 r) e))
  else if A 11 r = c ∧ ¬ mayEnd1 A r clk rel rq y = 0 then (1, settle (up A 12 r (gr (A 12 r) e)) r 0)
  else (0, A)
def tkGiven (A : MI) (r : Nat) : Int32 × MI := if A 10 r = 0 then (1, settle A r 1) else (0, A)
def lnKnown (A : MI) (r : Nat) (num amt : Int32) : Int32 × MI :=
  if (A 10 r = 2 ∨ A 10 r = 3) ∧ ¬ num < A 16 r ∧ A 18 r < amt then (1, up A 18 r amt) else (0, A)
def lnAck (A : MI) (r : Nat) (num ov : Int32) : Int32 × MI :=
  if A 17 r = 0 ∨ ¬ num = A 15 r then (0, A)
  else if A 10 r = 3 then (1, up (up (up A 17 r 0) 10 r 1) 19 r (gr (A 19 r) ov))
  else if A 10 r = 4 then (1, up (up (up A 17 r 0) 10 r 0) 19 r (gr (A 19 r) ov))
  else (1, up A 17 r 0)
theorem d_Rec_takeBound_0 : decode b_Rec_takeBound 0 = .ok (.aload_n 0, 1) := by decide +kernel
theorem d_Rec_takeBound_1 : decode b_Rec_takeBound 1 = .ok (.getfield 9, 3) := by decide +kernel
theorem d_Rec_takeBound_4 : decode b_Rec_takeBound 4 = .ok (.ifCond .ne 32, 3) := by decide +kernel
theorem d_Rec_takeBound_7 : decode b_Rec_takeBound 7 = .ok (.aload_n 0, 1) := by decide +kernel
theorem d_Rec_takeBound_8 : decode b_Rec_takeBound 8 = .ok (.aload_n 1, 1) := by decide +kernel
theorem d_Rec_takeBound_9 : decode b_Rec_takeBound 9 = .ok (.getfield 43, 3) := by decide +kernel
theorem d_Rec_takeBound_12 : decode b_Rec_takeBound 12 = .ok (.aload_n 1, 1) := by decide +kernel
theorem d_Rec_takeBound_13 : decode b_Rec_takeBound 13 = .ok (.getfield 46, 3) := by decide +kernel
theorem d_Rec_takeBound_16 : decode b_Rec_takeBound 16 = .ok (.aload_n 1, 1) := by decide +kernel
theorem d_Rec_takeBound_17 : decode b_Rec_takeBound 17 = .ok (.getfield 49, 3) := by decide +kernel
theorem d_Rec_takeBound_20 : decode b_Rec_takeBound 20 = .ok (.aload_n 0, 1) := by decide +kernel
theorem d_Rec_takeBound_21 : decode b_Rec_takeBound 21 = .ok (.getfield 18, 3) := by decide +kernel
theorem d_Rec_takeBound_24 : decode b_Rec_takeBound 24 = .ok (.iconst 1, 1) := by decide +kernel
theorem d_Rec_takeBound_25 : decode b_Rec_takeBound 25 = .ok (.iadd, 1) := by decide +kernel
theorem d_Rec_takeBound_26 : decode b_Rec_takeBound 26 = .ok (.invokevirtual 50, 3) := by decide +kernel
theorem d_Rec_takeBound_29 : decode b_Rec_takeBound 29 = .ok (.aload_n 0, 1) := by decide +kernel
theorem d_Rec_takeBound_30 : decode b_Rec_takeBound 30 = .ok (.iconst 0, 1) := by decide +kernel
theorem d_Rec_takeBound_31 : decode b_Rec_takeBound 31 = .ok (.putfield 21, 3) := by decide +kernel
theorem d_Rec_takeBound_34 : decode b_Rec_takeBound 34 = .ok (.iconst 1, 1) := by decide +kernel
theorem d_Rec_takeBound_35 : decode b_Rec_takeBound 35 = .ok (.ireturn, 1) := by decide +kernel
theorem d_Rec_takeBound_36 : decode b_Rec_takeBound 36 = .ok (.aload_n 0, 1) := by decide +kernel
theorem d_Rec_takeBound_37 : decode b_Rec_takeBound 37 = .ok (.getfield 15, 3) := by decide +kernel
theorem d_Rec_takeBound_40 : decode b_Rec_takeBound 40 = .ok (.aload_n 1, 1) := by decide +kernel
theorem d_Rec_takeBound_41 : decode b_Rec_takeBound 41 = .ok (.getfield 43, 3) := by decide +kernel
theorem d_Rec_takeBound_44 : decode b_Rec_takeBound 44 = .ok (.if_icmp .ne 19, 3) := by decide +kernel
theorem d_Rec_takeBound_47 : decode b_Rec_takeBound 47 = .ok (.aload_n 0, 1) := by decide +kernel
theorem d_Rec_takeBound_48 : decode b_Rec_takeBound 48 = .ok (.getfield 9, 3) := by decide +kernel
theorem d_Rec_takeBound_51 : decode b_Rec_takeBound 51 = .ok (.iconst 2, 1) := by decide +kernel
theorem d_Rec_takeBound_52 : decode b_Rec_takeBound 52 = .ok (.if_icmp .eq 13, 3) := by decide +kernel
theorem d_Rec_takeBound_55 : decode b_Rec_takeBound 55 = .ok (.aload_n 0, 1) := by decide +kernel
theorem d_Rec_takeBound_56 : decode b_Rec_takeBound 56 = .ok (.getfield 9, 3) := by decide +kernel
theorem d_Rec_takeBound_59 : decode b_Rec_takeBound 59 = .ok (.iconst 3, 1) := by decide +kernel
theorem d_Rec_takeBound_60 : decode b_Rec_takeBound 60 = .ok (.if_icmp .eq 5, 3) := by decide +kernel
theorem d_Rec_takeBound_63 : decode b_Rec_takeBound 63 = .ok (.iconst 0, 1) := by decide +kernel
theorem d_Rec_takeBound_64 : decode b_Rec_takeBound 64 = .ok (.ireturn, 1) := by decide +kernel
theorem d_Rec_takeBound_65 : decode b_Rec_takeBound 65 = .ok (.aload_n 0, 1) := by decide +kernel
theorem d_Rec_takeBound_66 : decode b_Rec_takeBound 66 = .ok (.getfield 9, 3) := by decide +kernel
theorem d_Rec_takeBound_69 : decode b_Rec_takeBound 69 = .ok (.iconst 2, 1) := by decide +kernel
theorem d_Rec_takeBound_70 : decode b_Rec_takeBound 70 = .ok (.if_icmp .ne 21, 3) := by decide +kernel
theorem d_Rec_takeBound_73 : decode b_Rec_takeBound 73 = .ok (.aload_n 0, 1) := by decide +kernel
theorem d_Rec_takeBound_74 : decode b_Rec_takeBound 74 = .ok (.aload_n 0, 1) := by decide +kernel
theorem d_Rec_takeBound_75 : decode b_Rec_takeBound 75 = .ok (.getfield 31, 3) := by decide +kernel
theorem d_Rec_takeBound_78 : decode b_Rec_takeBound 78 = .ok (.aload_n 1, 1) := by decide +kernel
theorem d_Rec_takeBound_79 : decode b_Rec_takeBound 79 = .ok (.getfield 49, 3) := by decide +kernel
theorem d_Rec_takeBound_82 : decode b_Rec_takeBound 82 = .ok (.invokestatic 54, 3) := by decide +kernel
theorem d_Rec_takeBound_85 : decode b_Rec_takeBound 85 = .ok (.putfield 31, 3) := by decide +kernel
theorem d_Rec_takeBound_88 : decode b_Rec_takeBound 88 = .ok (.goto 57, 3) := by decide +kernel
theorem d_Rec_takeBound_91 : decode b_Rec_takeBound 91 = .ok (.aload_n 1, 1) := by decide +kernel
theorem d_Rec_takeBound_92 : decode b_Rec_takeBound 92 = .ok (.getfield 49, 3) := by decide +kernel
theorem d_Rec_takeBound_95 : decode b_Rec_takeBound 95 = .ok (.aload_n 0, 1) := by decide +kernel
theorem d_Rec_takeBound_96 : decode b_Rec_takeBound 96 = .ok (.getfield 31, 3) := by decide +kernel
theorem d_Rec_takeBound_99 : decode b_Rec_takeBound 99 = .ok (.if_icmp .gt 21, 3) := by decide +kernel
theorem d_Rec_takeBound_102 : decode b_Rec_takeBound 102 = .ok (.aload_n 1, 1) := by decide +kernel
theorem d_Rec_takeBound_103 : decode b_Rec_takeBound 103 = .ok (.getfield 46, 3) := by decide +kernel
theorem d_Rec_takeBound_106 : decode b_Rec_takeBound 106 = .ok (.aload_n 0, 1) := by decide +kernel
theorem d_Rec_takeBound_107 : decode b_Rec_takeBound 107 = .ok (.getfield 28, 3) := by decide +kernel
theorem d_Rec_takeBound_110 : decode b_Rec_takeBound 110 = .ok (.if_icmp .le 35, 3) := by decide +kernel
theorem d_Rec_takeBound_113 : decode b_Rec_takeBound 113 = .ok (.aload_n 0, 1) := by decide +kernel
theorem d_Rec_takeBound_114 : decode b_Rec_takeBound 114 = .ok (.getfield 34, 3) := by decide +kernel
theorem d_Rec_takeBound_117 : decode b_Rec_takeBound 117 = .ok (.ifCond .ne 28, 3) := by decide +kernel
theorem d_Rec_takeBound_120 : decode b_Rec_takeBound 120 = .ok (.aload_n 0, 1) := by decide +kernel
theorem d_Rec_takeBound_121 : decode b_Rec_takeBound 121 = .ok (.aload_n 0, 1) := by decide +kernel
theorem d_Rec_takeBound_122 : decode b_Rec_takeBound 122 = .ok (.getfield 31, 3) := by decide +kernel
theorem d_Rec_takeBound_125 : decode b_Rec_takeBound 125 = .ok (.aload_n 1, 1) := by decide +kernel
theorem d_Rec_takeBound_126 : decode b_Rec_takeBound 126 = .ok (.getfield 49, 3) := by decide +kernel
theorem d_Rec_takeBound_129 : decode b_Rec_takeBound 129 = .ok (.invokestatic 54, 3) := by decide +kernel
theorem d_Rec_takeBound_132 : decode b_Rec_takeBound 132 = .ok (.putfield 31, 3) := by decide +kernel
theorem d_Rec_takeBound_135 : decode b_Rec_takeBound 135 = .ok (.aload_n 0, 1) := by decide +kernel
theorem d_Rec_takeBound_136 : decode b_Rec_takeBound 136 = .ok (.iconst 0, 1) := by decide +kernel
theorem d_Rec_takeBound_137 : decode b_Rec_takeBound 137 = .ok (.putfield 34, 3) := by decide +kernel
theorem d_Rec_takeBound_140 : decode b_Rec_takeBound 140 = .ok (.aload_n 0, 1) := by decide +kernel
theorem d_Rec_takeBound_141 : decode b_Rec_takeBound 141 = .ok (.iconst 2, 1) := by decide +kernel
theorem d_Rec_takeBound_142 : decode b_Rec_takeBound 142 = .ok (.invokevirtual 60, 3) := by decide +kernel
theorem d_Rec_takeBound_145 : decode b_Rec_takeBound 145 = .ok (.aload_n 0, 1) := by decide +kernel
theorem d_Rec_takeBound_146 : decode b_Rec_takeBound 146 = .ok (.aload_n 0, 1) := by decide +kernel
theorem d_Rec_takeBound_147 : decode b_Rec_takeBound 147 = .ok (.getfield 28, 3) := by decide +kernel
theorem d_Rec_takeBound_150 : decode b_Rec_takeBound 150 = .ok (.aload_n 1, 1) := by decide +kernel
theorem d_Rec_takeBound_151 : decode b_Rec_takeBound 151 = .ok (.getfield 46, 3) := by decide +kernel
theorem d_Rec_takeBound_154 : decode b_Rec_takeBound 154 = .ok (.invokestatic 54, 3) := by decide +kernel
theorem d_Rec_takeBound_157 : decode b_Rec_takeBound 157 = .ok (.putfield 28, 3) := by decide +kernel
theorem d_Rec_takeBound_160 : decode b_Rec_takeBound 160 = .ok (.iconst 1, 1) := by decide +kernel
theorem d_Rec_takeBound_161 : decode b_Rec_takeBound 161 = .ok (.ireturn, 1) := by decide +kernel
set_option maxRecDepth 100000 in
set_option maxHeartbeats 4000000 in
theorem c_Rec_takeBound (l : Launch) (K : Kx) (V : Vx) (A B C D : MI) (P : MP) (r : Nat) (hr : V.1 2 r) (q : Nat) (hq : V.1 5 q) : Ct l K md_Rec_takeBound (2, 41) 0 0 [.ref (K.ad 2 r), .ref (K.ad 5 q)] V (bk4 A B C D) P (EQ V (some (.int (tkBound A r (B 89 q) (B 86 q) (B 90 q)).1)) (bk4 (tkBound A r (B 89 q) (B 86 q) (B 90 q)).2 B C D) P) := by
  refine ct_of [(0, .ref (K.ad 2 r)), (1, .ref (K.ad 5 q))] (by decide) (Nat.le_of_ble_eq_true rfl) (ca_r (ca_r ca_n)) rfl ?_
  intro X hl hX
  have h : OkX X b_Rec_takeBound R_Rec K := hX.1
  have hN : X.nL = 2 := hX.2.1
  refine j_aload_n h d_Rec_takeBound_0 rfl ?_
  refine j_get0 h d_Rec_takeBound_1 fl_Rec_9 rfl (by assumption) ?_
  refine j_if_ne (tgt := 36) h d_Rec_takeBound_4 (by decide) (fun c1 => ?_) (fun c1 => ?_)
  · refine j_aload_n h d_Rec_takeBound_36 rfl ?_
    refine j_get0 h d_Rec_takeBound_37 fl_Rec_15 rfl (by assumption) ?_
    refine j_aload_n h d_Rec_takeBound_40 rfl ?_
    refine j_get1 h d_Rec_takeBound_41 fl_Rec_43 rfl (by assumption) ?_
    refine j_ic_ne (tgt := 63) h d_Rec_takeBound_44 (by decide) (fun c2 => ?_) (fun c2 => ?_)
    · refine j_iconst (v := 0) h d_Rec_takeBound_63 (by decide) ?_
      exact j_zret hX d_Rec_takeBound_64 rfl (by first | exact Or.inl rfl | exact Or.inr rfl | exact b01_z _ | assumption) (Nat.le_refl _) (Nat.le_refl _) ⟨rfl, by clear hX h hl; first | (simp_all [tkBound, up_rd]; done) | grind [tkBound], by clear hX h hl; first | (simp_all [tkBound, up_rd, chgTo_rd]; done) | grind [tkBound, up_rd, chgTo_rd, chg_rd, settle_rd, bnd_rd], rfl⟩
    · refine j_aload_n h d_Rec_takeBound_47 rfl ?_
      refine j_get0 h d_Rec_takeBound_48 fl_Rec_9 rfl (by assumption) ?_
      refine j_iconst (v := 2) h d_Rec_takeBound_51 (by decide) ?_
      refine j_ic_eq (tgt := 65) h d_Rec_takeBound_52 (by decide) (fun c3 => ?_) (fun c3 => ?_)
      · refine j_aload_n h d_Rec_takeBound_65 rfl ?_
        refine j_get0 h d_Rec_takeBound_66 fl_Rec_9 rfl (by assumption) ?_
        refine j_iconst (v := 2) h d_Rec_takeBound_69 (by decide) ?_
        refine j_ic_ne (tgt := 91) h d_Rec_takeBound_70 (by decide) (fun c4 => ?_) (fun c4 => ?_)
        · refine j_aload_n h d_Rec_takeBound_91 rfl ?_
          refine j_get1 h d_Rec_takeBound_92 fl_Rec_49 rfl (by assumption) ?_
          refine j_aload_n h d_Rec_takeBound_95 rfl ?_
          refine j_get0 h d_Rec_takeBound_96 fl_Rec_31 rfl (by assumption) ?_
          refine j_ic_gt (tgt := 120) h d_Rec_takeBound_99 (by decide) (fun c5 => ?_) (fun c5 => ?_)
          · refine j_aload_n h d_Rec_takeBound_120 rfl ?_
            refine j_aload_n h d_Rec_takeBound_121 rfl ?_
            refine j_get0 h d_Rec_takeBound_122 fl_Rec_31 rfl (by assumption) ?_
            refine j_aload_n h d_Rec_takeBound_125 rfl ?_
            refine j_get1 h d_Rec_takeBound_126 fl_Rec_49 rfl (by assumption) ?_
            refine j_mmax h d_Rec_takeBound_129 wm_Rec_54 (hM_of hX (by decide) (Nat.le_of_ble_eq_true rfl)) (hf_of (mc' := 0) (ms' := 0) hX (by decide) (by decide)) ?_
            refine j_put0 h d_Rec_takeBound_132 fw_Rec_31 rfl rfl (by assumption) ?_
            refine j_aload_n h d_Rec_takeBound_135 rfl ?_
            refine j_iconst (v := 0) h d_Rec_takeBound_136 (by decide) ?_
            refine j_putZ0 h d_Rec_takeBound_137 fw_Rec_34 rfl rfl (by assumption) (by first | exact Or.inl rfl | exact Or.inr rfl | assumption) ?_
            refine j_aload_n h d_Rec_takeBound_140 rfl ?_
            refine j_iconst (v := 2) h d_Rec_takeBound_141 (by decide) ?_
            refine j_callV h (c_Rec_changeTo _ _ _ _ _ _ _ _ _ hr _) d_Rec_takeBound_142 ml_Rec_60 mv_Rec_changeTo (by assumption) ⟨rfl, rfl⟩ rfl rfl (Nat.le_of_ble_eq_true rfl) (hR_of hX (by decide) (by decide)) (hf_of hX (by decide) (by decide)) ?_
            rintro _ _ _ _ ⟨rfl, rfl, rfl, rfl⟩
            refine j_aload_n h d_Rec_takeBound_145 rfl ?_
            refine j_aload_n h d_Rec_takeBound_146 rfl ?_
            refine j_get0 h d_Rec_takeBound_147 fl_Rec_28 rfl (by assumption) ?_
            refine j_aload_n h d_Rec_takeBound_150 rfl ?_
            refine j_get1 h d_Rec_takeBound_151 fl_Rec_46 rfl (by assumption) ?_
            refine j_mmax h d_Rec_takeBound_154 wm_Rec_54 (hM_of hX (by decide) (Nat.le_of_ble_eq_true rfl)) (hf_of (mc' := 0) (ms' := 0) hX (by decide) (by decide)) ?_
            refine j_put0 h d_Rec_takeBound_157 fw_Rec_28 rfl rfl (by assumption) ?_
            refine j_iconst (v := 1) h d_Rec_takeBound_160 (by decide) ?_
            exact j_zret hX d_Rec_takeBound_161 rfl (by first | exact Or.inl rfl | exact Or.inr rfl | exact b01_z _ | assumption) (Nat.le_refl _) (Nat.le_refl _) ⟨rfl, by clear hX h hl; first | (simp_all [tkBound, up_rd]; done) | grind [tkBound], by clear hX h hl; first | (simp_all [tkBound, up_rd, chgTo_rd]; done) | grind [tkBound, up_rd, chgTo_rd, chg_rd, settle_rd, bnd_rd], rfl⟩
          · refine j_aload_n h d_Rec_takeBound_102 rfl ?_
            refine j_get1 h d_Rec_takeBound_103 fl_Rec_46 rfl (by assumption) ?_
            refine j_aload_n h d_Rec_takeBound_106 rfl ?_
            refine j_get0 h d_Rec_takeBound_107 fl_Rec_28 rfl (by assumption) ?_
            refine j_ic_le (tgt := 145) h d_Rec_takeBound_110 (by decide) (fun c6 => ?_) (fun c6 => ?_)
            · refine j_aload_n h d_Rec_takeBound_145 rfl ?_
              refine j_aload_n h d_Rec_takeBound_146 rfl ?_
              refine j_get0 h d_Rec_takeBound_147 fl_Rec_28 rfl (by assumption) ?_
              refine j_aload_n h d_Rec_takeBound_150 rfl ?_
              refine j_get1 h d_Rec_takeBound_151 fl_Rec_46 rfl (by assumption) ?_
              refine j_mmax h d_Rec_takeBound_154 wm_Rec_54 (hM_of hX (by decide) (Nat.le_of_ble_eq_true rfl)) (hf_of (mc' := 0) (ms' := 0) hX (by decide) (by decide)) ?_
              refine j_put0 h d_Rec_takeBound_157 fw_Rec_28 rfl rfl (by assumption) ?_
              refine j_iconst (v := 1) h d_Rec_takeBound_160 (by decide) ?_
              exact j_zret hX d_Rec_takeBound_161 rfl (by first | exact Or.inl rfl | exact Or.inr rfl | exact b01_z _ | assumption) (Nat.le_refl _) (Nat.le_refl _) ⟨rfl, by clear hX h hl; first | (simp_all [tkBound, up_rd]; done) | grind [tkBound], by clear hX h hl; first | (simp_all [tkBound, up_rd, chgTo_rd]; done) | grind [tkBound, up_rd, chgTo_rd, chg_rd, settle_rd, bnd_rd], rfl⟩
            · refine j_aload_n h d_Rec_takeBound_113 rfl ?_
              refine j_get0 h d_Rec_takeBound_114 fl_Rec_34 rfl (by assumption) ?_
              refine j_if_ne (tgt := 145) h d_Rec_takeBound_117 (by decide) (fun c7 => ?_) (fun c7 => ?_)
              · refine j_aload_n h d_Rec_takeBound_145 rfl ?_
                refine j_aload_n h d_Rec_takeBound_146 rfl ?_
                refine j_get0 h d_Rec_takeBound_147 fl_Rec_28 rfl (by assumption) ?_
                refine j_aload_n h d_Rec_takeBound_150 rfl ?_
                refine j_get1 h d_Rec_takeBound_151 fl_Rec_46 rfl (by assumption) ?_
                refine j_mmax h d_Rec_takeBound_154 wm_Rec_54 (hM_of hX (by decide) (Nat.le_of_ble_eq_true rfl)) (hf_of (mc' := 0) (ms' := 0) hX (by decide) (by decide)) ?_
                refine j_put0 h d_Rec_takeBound_157 fw_Rec_28 rfl rfl (by assumption) ?_
                refine j_iconst (v := 1) h d_Rec_takeBound_160 (by decide) ?_
                exact j_zret hX d_Rec_takeBound_161 rfl (by first | exact Or.inl rfl | exact Or.inr rfl | exact b01_z _ | assumption) (Nat.le_refl _) (Nat.le_refl _) ⟨rfl, by clear hX h hl; first | (simp_all [tkBound, up_rd]; done) | grind [tkBound], by clear hX h hl; first | (simp_all [tkBound, up_rd, chgTo_rd]; done) | grind [tkBound, up_rd, chgTo_rd, chg_rd, settle_rd, bnd_rd], rfl⟩
              · refine j_aload_n h d_Rec_takeBound_120 rfl ?_
                refine j_aload_n h d_Rec_takeBound_121 rfl ?_
                refine j_get0 h d_Rec_takeBound_122 fl_Rec_31 rfl (by assumption) ?_
                refine j_aload_n h d_Rec_takeBound_125 rfl ?_
                refine j_get1 h d_Rec_takeBound_126 fl_Rec_49 rfl (by assumption) ?_
                refine j_mmax h d_Rec_takeBound_129 wm_Rec_54 (hM_of hX (by decide) (Nat.le_of_ble_eq_true rfl)) (hf_of (mc' := 0) (ms' := 0) hX (by decide) (by decide)) ?_
                refine j_put0 h d_Rec_takeBound_132 fw_Rec_31 rfl rfl (by assumption) ?_
                refine j_aload_n h d_Rec_takeBound_135 rfl ?_
                refine j_iconst (v := 0) h d_Rec_takeBound_136 (by decide) ?_
                refine j_putZ0 h d_Rec_takeBound_137 fw_Rec_34 rfl rfl (by assumption) (by first | exact Or.inl rfl | exact Or.inr rfl | assumption) ?_
                refine j_aload_n h d_Rec_takeBound_140 rfl ?_
                refine j_iconst (v := 2) h d_Rec_takeBound_141 (by decide) ?_
                refine j_callV h (c_Rec_changeTo _ _ _ _ _ _ _ _ _ hr _) d_Rec_takeBound_142 ml_Rec_60 mv_Rec_changeTo (by assumption) ⟨rfl, rfl⟩ rfl rfl (Nat.le_of_ble_eq_true rfl) (hR_of hX (by decide) (by decide)) (hf_of hX (by decide) (by decide)) ?_
                rintro _ _ _ _ ⟨rfl, rfl, rfl, rfl⟩
                refine j_aload_n h d_Rec_takeBound_145 rfl ?_
                refine j_aload_n h d_Rec_takeBound_146 rfl ?_
                refine j_get0 h d_Rec_takeBound_147 fl_Rec_28 rfl (by assumption) ?_
                refine j_aload_n h d_Rec_takeBound_150 rfl ?_
                refine j_get1 h d_Rec_takeBound_151 fl_Rec_46 rfl (by assumption) ?_
                refine j_mmax h d_Rec_takeBound_154 wm_Rec_54 (hM_of hX (by decide) (Nat.le_of_ble_eq_true rfl)) (hf_of (mc' := 0) (ms' := 0) hX (by decide) (by decide)) ?_
                refine j_put0 h d_Rec_takeBound_157 fw_Rec_28 rfl rfl (by assumption) ?_
                refine j_iconst (v := 1) h d_Rec_takeBound_160 (by decide) ?_
                exact j_zret hX d_Rec_takeBound_161 rfl (by first | exact Or.inl rfl | exact Or.inr rfl | exact b01_z _ | assumption) (Nat.le_refl _) (Nat.le_refl _) ⟨rfl, by clear hX h hl; first | (simp_all [tkBound, up_rd]; done) | grind [tkBound], by clear hX h hl; first | (simp_all [tkBound, up_rd, chgTo_rd]; done) | grind [tkBound, up_rd, chgTo_rd, chg_rd, settle_rd, bnd_rd], rfl⟩
        · refine j_aload_n h d_Rec_takeBound_73 rfl ?_
          refine j_aload_n h d_Rec_takeBound_74 rfl ?_
          refine j_get0 h d_Rec_takeBound_75 fl_Rec_31 rfl (by assumption) ?_
          refine j_aload_n h d_Rec_takeBound_78 rfl ?_
          refine j_get1 h d_Rec_takeBound_79 fl_Rec_49 rfl (by assumption) ?_
          refine j_mmax h d_Rec_takeBound_82 wm_Rec_54 (hM_of hX (by decide) (Nat.le_of_ble_eq_true rfl)) (hf_of (mc' := 0) (ms' := 0) hX (by decide) (by decide)) ?_
          refine j_put0 h d_Rec_takeBound_85 fw_Rec_31 rfl rfl (by assumption) ?_
          refine j_goto (tgt := 145) h d_Rec_takeBound_88 (by decide) ?_
          refine j_aload_n h d_Rec_takeBound_145 rfl ?_
          refine j_aload_n h d_Rec_takeBound_146 rfl ?_
          refine j_get0 h d_Rec_takeBound_147 fl_Rec_28 rfl (by assumption) ?_
          refine j_aload_n h d_Rec_takeBound_150 rfl ?_
          refine j_get1 h d_Rec_takeBound_151 fl_Rec_46 rfl (by assumption) ?_
          refine j_mmax h d_Rec_takeBound_154 wm_Rec_54 (hM_of hX (by decide) (Nat.le_of_ble_eq_true rfl)) (hf_of (mc' := 0) (ms' := 0) hX (by decide) (by decide)) ?_
          refine j_put0 h d_Rec_takeBound_157 fw_Rec_28 rfl rfl (by assumption) ?_
          refine j_iconst (v := 1) h d_Rec_takeBound_160 (by decide) ?_
          exact j_zret hX d_Rec_takeBound_161 rfl (by first | exact Or.inl rfl | exact Or.inr rfl | exact b01_z _ | assumption) (Nat.le_refl _) (Nat.le_refl _) ⟨rfl, by clear hX h hl; first | (simp_all [tkBound, up_rd]; done) | grind [tkBound], by clear hX h hl; first | (simp_all [tkBound, up_rd, chgTo_rd]; done) | grind [tkBound, up_rd, chgTo_rd, chg_rd, settle_rd, bnd_rd], rfl⟩
      · refine j_aload_n h d_Rec_takeBound_55 rfl ?_
        refine j_get0 h d_Rec_takeBound_56 fl_Rec_9 rfl (by assumption) ?_
        refine j_iconst (v := 3) h d_Rec_takeBound_59 (by decide) ?_
        refine j_ic_eq (tgt := 65) h d_Rec_takeBound_60 (by decide) (fun c8 => ?_) (fun c8 => ?_)
        · refine j_aload_n h d_Rec_takeBound_65 rfl ?_
          refine j_get0 h d_Rec_takeBound_66 fl_Rec_9 rfl (by assumption) ?_
          refine j_iconst (v := 2) h d_Rec_takeBound_69 (by decide) ?_
          refine j_ic_ne (tgt := 91) h d_Rec_takeBound_70 (by decide) (fun c9 => ?_) (fun c9 => ?_)
          · refine j_aload_n h d_Rec_takeBound_91 rfl ?_
            refine j_get1 h d_Rec_takeBound_92 fl_Rec_49 rfl (by assumption) ?_
            refine j_aload_n h d_Rec_takeBound_95 rfl ?_
            refine j_get0 h d_Rec_takeBound_96 fl_Rec_31 rfl (by assumption) ?_
            refine j_ic_gt (tgt := 120) h d_Rec_takeBound_99 (by decide) (fun c10 => ?_) (fun c10 => ?_)
            · refine j_aload_n h d_Rec_takeBound_120 rfl ?_
              refine j_aload_n h d_Rec_takeBound_121 rfl ?_
              refine j_get0 h d_Rec_takeBound_122 fl_Rec_31 rfl (by assumption) ?_
              refine j_aload_n h d_Rec_takeBound_125 rfl ?_
              refine j_get1 h d_Rec_takeBound_126 fl_Rec_49 rfl (by assumption) ?_
              refine j_mmax h d_Rec_takeBound_129 wm_Rec_54 (hM_of hX (by decide) (Nat.le_of_ble_eq_true rfl)) (hf_of (mc' := 0) (ms' := 0) hX (by decide) (by decide)) ?_
              refine j_put0 h d_Rec_takeBound_132 fw_Rec_31 rfl rfl (by assumption) ?_
              refine j_aload_n h d_Rec_takeBound_135 rfl ?_
              refine j_iconst (v := 0) h d_Rec_takeBound_136 (by decide) ?_
              refine j_putZ0 h d_Rec_takeBound_137 fw_Rec_34 rfl rfl (by assumption) (by first | exact Or.inl rfl | exact Or.inr rfl | assumption) ?_
              refine j_aload_n h d_Rec_takeBound_140 rfl ?_
              refine j_iconst (v := 2) h d_Rec_takeBound_141 (by decide) ?_
              refine j_callV h (c_Rec_changeTo _ _ _ _ _ _ _ _ _ hr _) d_Rec_takeBound_142 ml_Rec_60 mv_Rec_changeTo (by assumption) ⟨rfl, rfl⟩ rfl rfl (Nat.le_of_ble_eq_true rfl) (hR_of hX (by decide) (by decide)) (hf_of hX (by decide) (by decide)) ?_
              rintro _ _ _ _ ⟨rfl, rfl, rfl, rfl⟩
              refine j_aload_n h d_Rec_takeBound_145 rfl ?_
              refine j_aload_n h d_Rec_takeBound_146 rfl ?_
              refine j_get0 h d_Rec_takeBound_147 fl_Rec_28 rfl (by assumption) ?_
              refine j_aload_n h d_Rec_takeBound_150 rfl ?_
              refine j_get1 h d_Rec_takeBound_151 fl_Rec_46 rfl (by assumption) ?_
              refine j_mmax h d_Rec_takeBound_154 wm_Rec_54 (hM_of hX (by decide) (Nat.le_of_ble_eq_true rfl)) (hf_of (mc' := 0) (ms' := 0) hX (by decide) (by decide)) ?_
              refine j_put0 h d_Rec_takeBound_157 fw_Rec_28 rfl rfl (by assumption) ?_
              refine j_iconst (v := 1) h d_Rec_takeBound_160 (by decide) ?_
              exact j_zret hX d_Rec_takeBound_161 rfl (by first | exact Or.inl rfl | exact Or.inr rfl | exact b01_z _ | assumption) (Nat.le_refl _) (Nat.le_refl _) ⟨rfl, by clear hX h hl; first | (simp_all [tkBound, up_rd]; done) | grind [tkBound], by clear hX h hl; first | (simp_all [tkBound, up_rd, chgTo_rd]; done) | grind [tkBound, up_rd, chgTo_rd, chg_rd, settle_rd, bnd_rd], rfl⟩
            · refine j_aload_n h d_Rec_takeBound_102 rfl ?_
              refine j_get1 h d_Rec_takeBound_103 fl_Rec_46 rfl (by assumption) ?_
              refine j_aload_n h d_Rec_takeBound_106 rfl ?_
              refine j_get0 h d_Rec_takeBound_107 fl_Rec_28 rfl (by assumption) ?_
              refine j_ic_le (tgt := 145) h d_Rec_takeBound_110 (by decide) (fun c11 => ?_) (fun c11 => ?_)
              · refine j_aload_n h d_Rec_takeBound_145 rfl ?_
                refine j_aload_n h d_Rec_takeBound_146 rfl ?_
                refine j_get0 h d_Rec_takeBound_147 fl_Rec_28 rfl (by assumption) ?_
                refine j_aload_n h d_Rec_takeBound_150 rfl ?_
                refine j_get1 h d_Rec_takeBound_151 fl_Rec_46 rfl (by assumption) ?_
                refine j_mmax h d_Rec_takeBound_154 wm_Rec_54 (hM_of hX (by decide) (Nat.le_of_ble_eq_true rfl)) (hf_of (mc' := 0) (ms' := 0) hX (by decide) (by decide)) ?_
                refine j_put0 h d_Rec_takeBound_157 fw_Rec_28 rfl rfl (by assumption) ?_
                refine j_iconst (v := 1) h d_Rec_takeBound_160 (by decide) ?_
                exact j_zret hX d_Rec_takeBound_161 rfl (by first | exact Or.inl rfl | exact Or.inr rfl | exact b01_z _ | assumption) (Nat.le_refl _) (Nat.le_refl _) ⟨rfl, by clear hX h hl; first | (simp_all [tkBound, up_rd]; done) | grind [tkBound], by clear hX h hl; first | (simp_all [tkBound, up_rd, chgTo_rd]; done) | grind [tkBound, up_rd, chgTo_rd, chg_rd, settle_rd, bnd_rd], rfl⟩
              · refine j_aload_n h d_Rec_takeBound_113 rfl ?_
                refine j_get0 h d_Rec_takeBound_114 fl_Rec_34 rfl (by assumption) ?_
                refine j_if_ne (tgt := 145) h d_Rec_takeBound_117 (by decide) (fun c12 => ?_) (fun c12 => ?_)
                · refine j_aload_n h d_Rec_takeBound_145 rfl ?_
                  refine j_aload_n h d_Rec_takeBound_146 rfl ?_
                  refine j_get0 h d_Rec_takeBound_147 fl_Rec_28 rfl (by assumption) ?_
                  refine j_aload_n h d_Rec_takeBound_150 rfl ?_
                  refine j_get1 h d_Rec_takeBound_151 fl_Rec_46 rfl (by assumption) ?_
                  refine j_mmax h d_Rec_takeBound_154 wm_Rec_54 (hM_of hX (by decide) (Nat.le_of_ble_eq_true rfl)) (hf_of (mc' := 0) (ms' := 0) hX (by decide) (by decide)) ?_
                  refine j_put0 h d_Rec_takeBound_157 fw_Rec_28 rfl rfl (by assumption) ?_
                  refine j_iconst (v := 1) h d_Rec_takeBound_160 (by decide) ?_
                  exact j_zret hX d_Rec_takeBound_161 rfl (by first | exact Or.inl rfl | exact Or.inr rfl | exact b01_z _ | assumption) (Nat.le_refl _) (Nat.le_refl _) ⟨rfl, by clear hX h hl; first | (simp_all [tkBound, up_rd]; done) | grind [tkBound], by clear hX h hl; first | (simp_all [tkBound, up_rd, chgTo_rd]; done) | grind [tkBound, up_rd, chgTo_rd, chg_rd, settle_rd, bnd_rd], rfl⟩
                · refine j_aload_n h d_Rec_takeBound_120 rfl ?_
                  refine j_aload_n h d_Rec_takeBound_121 rfl ?_
                  refine j_get0 h d_Rec_takeBound_122 fl_Rec_31 rfl (by assumption) ?_
                  refine j_aload_n h d_Rec_takeBound_125 rfl ?_
                  refine j_get1 h d_Rec_takeBound_126 fl_Rec_49 rfl (by assumption) ?_
                  refine j_mmax h d_Rec_takeBound_129 wm_Rec_54 (hM_of hX (by decide) (Nat.le_of_ble_eq_true rfl)) (hf_of (mc' := 0) (ms' := 0) hX (by decide) (by decide)) ?_
                  refine j_put0 h d_Rec_takeBound_132 fw_Rec_31 rfl rfl (by assumption) ?_
                  refine j_aload_n h d_Rec_takeBound_135 rfl ?_
                  refine j_iconst (v := 0) h d_Rec_takeBound_136 (by decide) ?_
                  refine j_putZ0 h d_Rec_takeBound_137 fw_Rec_34 rfl rfl (by assumption) (by first | exact Or.inl rfl | exact Or.inr rfl | assumption) ?_
                  refine j_aload_n h d_Rec_takeBound_140 rfl ?_
                  refine j_iconst (v := 2) h d_Rec_takeBound_141 (by decide) ?_
                  refine j_callV h (c_Rec_changeTo _ _ _ _ _ _ _ _ _ hr _) d_Rec_takeBound_142 ml_Rec_60 mv_Rec_changeTo (by assumption) ⟨rfl, rfl⟩ rfl rfl (Nat.le_of_ble_eq_true rfl) (hR_of hX (by decide) (by decide)) (hf_of hX (by decide) (by decide)) ?_
                  rintro _ _ _ _ ⟨rfl, rfl, rfl, rfl⟩
                  refine j_aload_n h d_Rec_takeBound_145 rfl ?_
                  refine j_aload_n h d_Rec_takeBound_146 rfl ?_
                  refine j_get0 h d_Rec_takeBound_147 fl_Rec_28 rfl (by assumption) ?_
                  refine j_aload_n h d_Rec_takeBound_150 rfl ?_
                  refine j_get1 h d_Rec_takeBound_151 fl_Rec_46 rfl (by assumption) ?_
                  refine j_mmax h d_Rec_takeBound_154 wm_Rec_54 (hM_of hX (by decide) (Nat.le_of_ble_eq_true rfl)) (hf_of (mc' := 0) (ms' := 0) hX (by decide) (by decide)) ?_
                  refine j_put0 h d_Rec_takeBound_157 fw_Rec_28 rfl rfl (by assumption) ?_
                  refine j_iconst (v := 1) h d_Rec_takeBound_160 (by decide) ?_
                  exact j_zret hX d_Rec_takeBound_161 rfl (by first | exact Or.inl rfl | exact Or.inr rfl | exact b01_z _ | assumption) (Nat.le_refl _) (Nat.le_refl _) ⟨rfl, by clear hX h hl; first | (simp_all [tkBound, up_rd]; done) | grind [tkBound], by clear hX h hl; first | (simp_all [tkBound, up_rd, chgTo_rd]; done) | grind [tkBound, up_rd, chgTo_rd, chg_rd, settle_rd, bnd_rd], rfl⟩
          · refine j_aload_n h d_Rec_takeBound_73 rfl ?_
            refine j_aload_n h d_Rec_takeBound_74 rfl ?_
            refine j_get0 h d_Rec_takeBound_75 fl_Rec_31 rfl (by assumption) ?_
            refine j_aload_n h d_Rec_takeBound_78 rfl ?_
            refine j_get1 h d_Rec_takeBound_79 fl_Rec_49 rfl (by assumption) ?_
            refine j_mmax h d_Rec_takeBound_82 wm_Rec_54 (hM_of hX (by decide) (Nat.le_of_ble_eq_true rfl)) (hf_of (mc' := 0) (ms' := 0) hX (by decide) (by decide)) ?_
            refine j_put0 h d_Rec_takeBound_85 fw_Rec_31 rfl rfl (by assumption) ?_
            refine j_goto (tgt := 145) h d_Rec_takeBound_88 (by decide) ?_
            refine j_aload_n h d_Rec_takeBound_145 rfl ?_
            refine j_aload_n h d_Rec_takeBound_146 rfl ?_
            refine j_get0 h d_Rec_takeBound_147 fl_Rec_28 rfl (by assumption) ?_
            refine j_aload_n h d_Rec_takeBound_150 rfl ?_
            refine j_get1 h d_Rec_takeBound_151 fl_Rec_46 rfl (by assumption) ?_
            refine j_mmax h d_Rec_takeBound_154 wm_Rec_54 (hM_of hX (by decide) (Nat.le_of_ble_eq_true rfl)) (hf_of (mc' := 0) (ms' := 0) hX (by decide) (by decide)) ?_
            refine j_put0 h d_Rec_takeBound_157 fw_Rec_28 rfl rfl (by assumption) ?_
            refine j_iconst (v := 1) h d_Rec_takeBound_160 (by decide) ?_
            exact j_zret hX d_Rec_takeBound_161 rfl (by first | exact Or.inl rfl | exact Or.inr rfl | exact b01_z _ | assumption) (Nat.le_refl _) (Nat.le_refl _) ⟨rfl, by clear hX h hl; first | (simp_all [tkBound, up_rd]; done) | grind [tkBound], by clear hX h hl; first | (simp_all [tkBound, up_rd, chgTo_rd]; done) | grind [tkBound, up_rd, chgTo_rd, chg_rd, settle_rd, bnd_rd], rfl⟩
        · refine j_iconst (v := 0) h d_Rec_takeBound_63 (by decide) ?_
          exact j_zret hX d_Rec_takeBound_64 rfl (by first | exact Or.inl rfl | exact Or.inr rfl | exact b01_z _ | assumption) (Nat.le_refl _) (Nat.le_refl _) ⟨rfl, by clear hX h hl; first | (simp_all [tkBound, up_rd]; done) | grind [tkBound], by clear hX h hl; first | (simp_all [tkBound, up_rd, chgTo_rd]; done) | grind [tkBound, up_rd, chgTo_rd, chg_rd, settle_rd, bnd_rd], rfl⟩
  · refine j_aload_n h d_Rec_takeBound_7 rfl ?_
    refine j_aload_n h d_Rec_takeBound_8 rfl ?_
    refine j_get1 h d_Rec_takeBound_9 fl_Rec_43 rfl (by assumption) ?_
    refine j_aload_n h d_Rec_takeBound_12 rfl ?_
    refine j_get1 h d_Rec_takeBound_13 fl_Rec_46 rfl (by assumption) ?_
    refine j_aload_n h d_Rec_takeBound_16 rfl ?_
    refine j_get1 h d_Rec_takeBound_17 fl_Rec_49 rfl (by assumption) ?_
    refine j_aload_n h d_Rec_takeBound_20 rfl ?_
    refine j_get0 h d_Rec_takeBound_21 fl_Rec_18 rfl (by assumption) ?_
    refine j_iconst (v := 1) h d_Rec_takeBound_24 (by decide) ?_
    refine j_iadd h d_Rec_takeBound_25 ?_
    refine j_callV h (c_Rec_bind _ _ _ _ _ _ _ _ _ hr _ _ _ _) d_Rec_takeBound_26 ml_Rec_50 mv_Rec_bind (by assumption) ⟨rfl, rfl⟩ rfl rfl (Nat.le_of_ble_eq_true rfl) (hR_of hX (by decide) (by decide)) (hf_of hX (by decide) (by decide)) ?_
    rintro _ _ _ _ ⟨rfl, rfl, rfl, rfl⟩
    refine j_aload_n h d_Rec_takeBound_29 rfl ?_
    refine j_iconst (v := 0) h d_Rec_takeBound_30 (by decide) ?_
    refine j_putZ0 h d_Rec_takeBound_31 fw_Rec_21 rfl rfl (by assumption) (by first | exact Or.inl rfl | exact Or.inr rfl | assumption) ?_
    refine j_iconst (v := 1) h d_Rec_takeBound_34 (by decide) ?_
    exact j_zret hX d_Rec_takeBound_35 rfl (by first | exact Or.inl rfl | exact Or.inr rfl | exact b01_z _ | assumption) (Nat.le_refl _) (Nat.le_refl _) ⟨rfl, by clear hX h hl; first | (simp_all [tkBound, up_rd]; done) | grind [tkBound], by clear hX h hl; first | (simp_all [tkBound, up_rd, chgTo_rd]; done) | grind [tkBound, up_rd, chgTo_rd, chg_rd, settle_rd, bnd_rd], rfl⟩
theorem d_Rec_mayEnd_0 : decode b_Rec_mayEnd 0 = .ok (.aload_n 0, 1) := by decide +kernel
theorem d_Rec_mayEnd_1 : decode b_Rec_mayEnd 1 = .ok (.getfield 9, 3) := by decide +kernel
theorem d_Rec_mayEnd_4 : decode b_Rec_mayEnd 4 = .ok (.iconst 2, 1) := by decide +kernel
theorem d_Rec_mayEnd_5 : decode b_Rec_mayEnd 5 = .ok (.if_icmp .ne 35, 3) := by decide +kernel
theorem d_Rec_mayEnd_8 : decode b_Rec_mayEnd 8 = .ok (.aload_n 0, 1) := by decide +kernel
theorem d_Rec_mayEnd_9 : decode b_Rec_mayEnd 9 = .ok (.getfield 28, 3) := by decide +kernel
theorem d_Rec_mayEnd_12 : decode b_Rec_mayEnd 12 = .ok (.iload_n 2, 1) := by decide +kernel
theorem d_Rec_mayEnd_13 : decode b_Rec_mayEnd 13 = .ok (.if_icmp .le 21, 3) := by decide +kernel
theorem d_Rec_mayEnd_16 : decode b_Rec_mayEnd 16 = .ok (.aload_n 1, 1) := by decide +kernel
theorem d_Rec_mayEnd_17 : decode b_Rec_mayEnd 17 = .ok (.getfield 71, 3) := by decide +kernel
theorem d_Rec_mayEnd_20 : decode b_Rec_mayEnd 20 = .ok (.ifCond .eq 18, 3) := by decide +kernel
theorem d_Rec_mayEnd_23 : decode b_Rec_mayEnd 23 = .ok (.aload_n 1, 1) := by decide +kernel
theorem d_Rec_mayEnd_24 : decode b_Rec_mayEnd 24 = .ok (.getfield 49, 3) := by decide +kernel
theorem d_Rec_mayEnd_27 : decode b_Rec_mayEnd 27 = .ok (.aload_n 0, 1) := by decide +kernel
theorem d_Rec_mayEnd_28 : decode b_Rec_mayEnd 28 = .ok (.getfield 31, 3) := by decide +kernel
theorem d_Rec_mayEnd_31 : decode b_Rec_mayEnd 31 = .ok (.if_icmp .le 7, 3) := by decide +kernel
theorem d_Rec_mayEnd_34 : decode b_Rec_mayEnd 34 = .ok (.iconst 1, 1) := by decide +kernel
theorem d_Rec_mayEnd_35 : decode b_Rec_mayEnd 35 = .ok (.goto 4, 3) := by decide +kernel
theorem d_Rec_mayEnd_38 : decode b_Rec_mayEnd 38 = .ok (.iconst 0, 1) := by decide +kernel
theorem d_Rec_mayEnd_39 : decode b_Rec_mayEnd 39 = .ok (.ireturn, 1) := by decide +kernel
theorem d_Rec_mayEnd_40 : decode b_Rec_mayEnd 40 = .ok (.aload_n 0, 1) := by decide +kernel
theorem d_Rec_mayEnd_41 : decode b_Rec_mayEnd 41 = .ok (.getfield 9, 3) := by decide +kernel
theorem d_Rec_mayEnd_44 : decode b_Rec_mayEnd 44 = .ok (.iconst 3, 1) := by decide +kernel
theorem d_Rec_mayEnd_45 : decode b_Rec_mayEnd 45 = .ok (.if_icmp .ne 11, 3) := by decide +kernel
theorem d_Rec_mayEnd_48 : decode b_Rec_mayEnd 48 = .ok (.iload_n 3, 1) := by decide +kernel
theorem d_Rec_mayEnd_49 : decode b_Rec_mayEnd 49 = .ok (.ifCond .eq 7, 3) := by decide +kernel
theorem d_Rec_mayEnd_52 : decode b_Rec_mayEnd 52 = .ok (.iconst 1, 1) := by decide +kernel
theorem d_Rec_mayEnd_53 : decode b_Rec_mayEnd 53 = .ok (.goto 4, 3) := by decide +kernel
theorem d_Rec_mayEnd_56 : decode b_Rec_mayEnd 56 = .ok (.iconst 0, 1) := by decide +kernel
theorem d_Rec_mayEnd_57 : decode b_Rec_mayEnd 57 = .ok (.ireturn, 1) := by decide +kernel
set_option maxRecDepth 100000 in
set_option maxHeartbeats 4000000 in
theorem c_Rec_mayEnd (l : Launch) (K : Kx) (V : Vx) (A B C D : MI) (P : MP) (r : Nat) (hr : V.1 2 r) (q : Nat) (hq : V.1 5 q) (ck y : Int32) : Ct l K md_Rec_mayEnd (0, 0) 0 0 [.ref (K.ad 2 r), .ref (K.ad 5 q), .int ck, .int y] V (bk4 A B C D) P (EQ V (some (.int (mayEnd1 A r ck (B 91 q) (B 90 q) y))) (bk4 A B C D) P) := by
  refine ct_of [(0, .ref (K.ad 2 r)), (1, .ref (K.ad 5 q)), (2, .int ck), (3, .int y)] (by decide) (Nat.le_of_ble_eq_true rfl) (ca_r (ca_r (ca_i (ca_i ca_n)))) rfl ?_
  intro X hl hX
  have h : OkX X b_Rec_mayEnd R_Rec K := hX.1
  have hN : X.nL = 4 := hX.2.1
  refine j_aload_n h d_Rec_mayEnd_0 rfl ?_
  refine j_get0 h d_Rec_mayEnd_1 fl_Rec_9 rfl (by assumption) ?_
  refine j_iconst (v := 2) h d_Rec_mayEnd_4 (by decide) ?_
  refine j_ic_ne (tgt := 40) h d_Rec_mayEnd_5 (by decide) (fun c1 => ?_) (fun c1 => ?_)
  · refine j_aload_n h d_Rec_mayEnd_40 rfl ?_
    refine j_get0 h d_Rec_mayEnd_41 fl_Rec_9 rfl (by assumption) ?_
    refine j_iconst (v := 3) h d_Rec_mayEnd_44 (by decide) ?_
    refine j_ic_ne (tgt := 56) h d_Rec_mayEnd_45 (by decide) (fun c2 => ?_) (fun c2 => ?_)
    · refine j_iconst (v := 0) h d_Rec_mayEnd_56 (by decide) ?_
      exact j_zret hX d_Rec_mayEnd_57 rfl (by first | exact Or.inl rfl | exact Or.inr rfl | exact b01_z _ | assumption) (Nat.le_refl _) (Nat.le_refl _) ⟨rfl, by clear hX h hl; first | (simp_all [mayEnd1, mayEnd]; done) | grind [mayEnd1, mayEnd], rfl, rfl⟩
    · refine j_iload_n h d_Rec_mayEnd_48 rfl ?_
      refine j_if_eq (tgt := 56) h d_Rec_mayEnd_49 (by decide) (fun c3 => ?_) (fun c3 => ?_)
      · refine j_iconst (v := 0) h d_Rec_mayEnd_56 (by decide) ?_
        exact j_zret hX d_Rec_mayEnd_57 rfl (by first | exact Or.inl rfl | exact Or.inr rfl | exact b01_z _ | assumption) (Nat.le_refl _) (Nat.le_refl _) ⟨rfl, by clear hX h hl; first | (simp_all [mayEnd1, mayEnd]; done) | grind [mayEnd1, mayEnd], rfl, rfl⟩
      · refine j_iconst (v := 1) h d_Rec_mayEnd_52 (by decide) ?_
        refine j_goto (tgt := 57) h d_Rec_mayEnd_53 (by decide) ?_
        exact j_zret hX d_Rec_mayEnd_57 rfl (by first | exact Or.inl rfl | exact Or.inr rfl | exact b01_z _ | assumption) (Nat.le_refl _) (Nat.le_refl _) ⟨rfl, by clear hX h hl; first | (simp_all [mayEnd1, mayEnd]; done) | grind [mayEnd1, mayEnd], rfl, rfl⟩
  · refine j_aload_n h d_Rec_mayEnd_8 rfl ?_
    refine j_get0 h d_Rec_mayEnd_9 fl_Rec_28 rfl (by assumption) ?_
    refine j_iload_n h d_Rec_mayEnd_12 rfl ?_
    refine j_ic_le (tgt := 34) h d_Rec_mayEnd_13 (by decide) (fun c4 => ?_) (fun c4 => ?_)
    · refine j_iconst (v := 1) h d_Rec_mayEnd_34 (by decide) ?_
      refine j_goto (tgt := 39) h d_Rec_mayEnd_35 (by decide) ?_
      exact j_zret hX d_Rec_mayEnd_39 rfl (by first | exact Or.inl rfl | exact Or.inr rfl | exact b01_z _ | assumption) (Nat.le_refl _) (Nat.le_refl _) ⟨rfl, by clear hX h hl; first | (simp_all [mayEnd1, mayEnd]; done) | grind [mayEnd1, mayEnd], rfl, rfl⟩
    · refine j_aload_n h d_Rec_mayEnd_16 rfl ?_
      refine j_get1 h d_Rec_mayEnd_17 fl_Rec_71 rfl (by assumption) ?_
      refine j_if_eq (tgt := 38) h d_Rec_mayEnd_20 (by decide) (fun c5 => ?_) (fun c5 => ?_)
      · refine j_iconst (v := 0) h d_Rec_mayEnd_38 (by decide) ?_
        exact j_zret hX d_Rec_mayEnd_39 rfl (by first | exact Or.inl rfl | exact Or.inr rfl | exact b01_z _ | assumption) (Nat.le_refl _) (Nat.le_refl _) ⟨rfl, by clear hX h hl; first | (simp_all [mayEnd1, mayEnd]; done) | grind [mayEnd1, mayEnd], rfl, rfl⟩
      · refine j_aload_n h d_Rec_mayEnd_23 rfl ?_
        refine j_get1 h d_Rec_mayEnd_24 fl_Rec_49 rfl (by assumption) ?_
        refine j_aload_n h d_Rec_mayEnd_27 rfl ?_
        refine j_get0 h d_Rec_mayEnd_28 fl_Rec_31 rfl (by assumption) ?_
        refine j_ic_le (tgt := 38) h d_Rec_mayEnd_31 (by decide) (fun c6 => ?_) (fun c6 => ?_)
        · refine j_iconst (v := 0) h d_Rec_mayEnd_38 (by decide) ?_
          exact j_zret hX d_Rec_mayEnd_39 rfl (by first | exact Or.inl rfl | exact Or.inr rfl | exact b01_z _ | assumption) (Nat.le_refl _) (Nat.le_refl _) ⟨rfl, by clear hX h hl; first | (simp_all [mayEnd1, mayEnd]; done) | grind [mayEnd1, mayEnd], rfl, rfl⟩
        · refine j_iconst (v := 1) h d_Rec_mayEnd_34 (by decide) ?_
          refine j_goto (tgt := 39) h d_Rec_mayEnd_35 (by decide) ?_
          exact j_zret hX d_Rec_mayEnd_39 rfl (by first | exact Or.inl rfl | exact Or.inr rfl | exact b01_z _ | assumption) (Nat.le_refl _) (Nat.le_refl _) ⟨rfl, by clear hX h hl; first | (simp_all [mayEnd1, mayEnd]; done) | grind [mayEnd1, mayEnd], rfl, rfl⟩
theorem d_Rec_takeEnding_0 : decode b_Rec_takeEnding 0 = .ok (.aload_n 0, 1) := by decide +kernel
theorem d_Rec_takeEnding_1 : decode b_Rec_takeEnding 1 = .ok (.getfield 9, 3) := by decide +kernel
theorem d_Rec_takeEnding_4 : decode b_Rec_takeEnding 4 = .ok (.ifCond .ne 20, 3) := by decide +kernel
theorem d_Rec_takeEnding_7 : decode b_Rec_takeEnding 7 = .ok (.aload_n 0, 1) := by decide +kernel
theorem d_Rec_takeEnding_8 : decode b_Rec_takeEnding 8 = .ok (.aload_n 0, 1) := by decide +kernel
theorem d_Rec_takeEnding_9 : decode b_Rec_takeEnding 9 = .ok (.getfield 28, 3) := by decide +kernel
theorem d_Rec_takeEnding_12 : decode b_Rec_takeEnding 12 = .ok (.aload_n 1, 1) := by decide +kernel
theorem d_Rec_takeEnding_13 : decode b_Rec_takeEnding 13 = .ok (.getfield 46, 3) := by decide +kernel
theorem d_Rec_takeEnding_16 : decode b_Rec_takeEnding 16 = .ok (.invokestatic 54, 3) := by decide +kernel
theorem d_Rec_takeEnding_19 : decode b_Rec_takeEnding 19 = .ok (.putfield 28, 3) := by decide +kernel
theorem d_Rec_takeEnding_22 : decode b_Rec_takeEnding 22 = .ok (.iconst 1, 1) := by decide +kernel
theorem d_Rec_takeEnding_23 : decode b_Rec_takeEnding 23 = .ok (.ireturn, 1) := by decide +kernel
theorem d_Rec_takeEnding_24 : decode b_Rec_takeEnding 24 = .ok (.aload_n 0, 1) := by decide +kernel
theorem d_Rec_takeEnding_25 : decode b_Rec_takeEnding 25 = .ok (.getfield 15, 3) := by decide +kernel
theorem d_Rec_takeEnding_28 : decode b_Rec_takeEnding 28 = .ok (.aload_n 1, 1) := by decide +kernel
theorem d_Rec_takeEnding_29 : decode b_Rec_takeEnding 29 = .ok (.getfield 43, 3) := by decide +kernel
theorem d_Rec_takeEnding_32 : decode b_Rec_takeEnding 32 = .ok (.if_icmp .ne 13, 3) := by decide +kernel
theorem d_Rec_takeEnding_35 : decode b_Rec_takeEnding 35 = .ok (.aload_n 0, 1) := by decide +kernel
theorem d_Rec_takeEnding_36 : decode b_Rec_takeEnding 36 = .ok (.aload_n 1, 1) := by decide +kernel
theorem d_Rec_takeEnding_37 : decode b_Rec_takeEnding 37 = .ok (.iload_n 2, 1) := by decide +kernel
theorem d_Rec_takeEnding_38 : decode b_Rec_takeEnding 38 = .ok (.iload_n 3, 1) := by decide +kernel
theorem d_Rec_takeEnding_39 : decode b_Rec_takeEnding 39 = .ok (.invokevirtual 64, 3) := by decide +kernel
theorem d_Rec_takeEnding_42 : decode b_Rec_takeEnding 42 = .ok (.ifCond .ne 5, 3) := by decide +kernel
theorem d_Rec_takeEnding_45 : decode b_Rec_takeEnding 45 = .ok (.iconst 0, 1) := by decide +kernel
theorem d_Rec_takeEnding_46 : decode b_Rec_takeEnding 46 = .ok (.ireturn, 1) := by decide +kernel
theorem d_Rec_takeEnding_47 : decode b_Rec_takeEnding 47 = .ok (.aload_n 0, 1) := by decide +kernel
theorem d_Rec_takeEnding_48 : decode b_Rec_takeEnding 48 = .ok (.aload_n 0, 1) := by decide +kernel
theorem d_Rec_takeEnding_49 : decode b_Rec_takeEnding 49 = .ok (.getfield 28, 3) := by decide +kernel
theorem d_Rec_takeEnding_52 : decode b_Rec_takeEnding 52 = .ok (.aload_n 1, 1) := by decide +kernel
theorem d_Rec_takeEnding_53 : decode b_Rec_takeEnding 53 = .ok (.getfield 46, 3) := by decide +kernel
theorem d_Rec_takeEnding_56 : decode b_Rec_takeEnding 56 = .ok (.invokestatic 54, 3) := by decide +kernel
theorem d_Rec_takeEnding_59 : decode b_Rec_takeEnding 59 = .ok (.putfield 28, 3) := by decide +kernel
theorem d_Rec_takeEnding_62 : decode b_Rec_takeEnding 62 = .ok (.aload_n 0, 1) := by decide +kernel
theorem d_Rec_takeEnding_63 : decode b_Rec_takeEnding 63 = .ok (.iconst 0, 1) := by decide +kernel
theorem d_Rec_takeEnding_64 : decode b_Rec_takeEnding 64 = .ok (.invokevirtual 68, 3) := by decide +kernel
theorem d_Rec_takeEnding_67 : decode b_Rec_takeEnding 67 = .ok (.iconst 1, 1) := by decide +kernel
theorem d_Rec_takeEnding_68 : decode b_Rec_takeEnding 68 = .ok (.ireturn, 1) := by decide +kernel
set_option maxRecDepth 100000 in
set_option maxHeartbeats 4000000 in
theorem c_Rec_takeEnding (l : Launch) (K : Kx) (V : Vx) (A B C D : MI) (P : MP) (r : Nat) (hr : V.1 2 r) (q : Nat) (hq : V.1 5 q) (ck y : Int32) : Ct l K md_Rec_takeEnding (1, 23) 0 0 [.ref (K.ad 2 r), .ref (K.ad 5 q), .int ck, .int y] V (bk4 A B C D) P (EQ V (some (.int (tkEnding A r (B 89 q) (B 86 q) ck (B 91 q) (B 90 q) y).1)) (bk4 (tkEnding A r (B 89 q) (B 86 q) ck (B 91 q) (B 90 q) y).2 B C D) P) := by
  refine ct_of [(0, .ref (K.ad 2 r)), (1, .ref (K.ad 5 q)), (2, .int ck), (3, .int y)] (by decide) (Nat.le_of_ble_eq_true rfl) (ca_r (ca_r (ca_i (ca_i ca_n)))) rfl ?_
  intro X hl hX
  have h : OkX X b_Rec_takeEnding R_Rec K := hX.1
  have hN : X.nL = 4 := hX.2.1
  refine j_aload_n h d_Rec_takeEnding_0 rfl ?_
  refine j_get0 h d_Rec_takeEnding_1 fl_Rec_9 rfl (by assumption) ?_
  refine j_if_ne (tgt := 24) h d_Rec_takeEnding_4 (by decide) (fun c1 => ?_) (fun c1 => ?_)
  · refine j_aload_n h d_Rec_takeEnding_24 rfl ?_
    refine j_get0 h d_Rec_takeEnding_25 fl_Rec_15 rfl (by assumption) ?_
    refine j_aload_n h d_Rec_takeEnding_28 rfl ?_
    refine j_get1 h d_Rec_takeEnding_29 fl_Rec_43 rfl (by assumption) ?_
    refine j_ic_ne (tgt := 45) h d_Rec_takeEnding_32 (by decide) (fun c2 => ?_) (fun c2 => ?_)
    · refine j_iconst (v := 0) h d_Rec_takeEnding_45 (by decide) ?_
      exact j_zret hX d_Rec_takeEnding_46 rfl (by first | exact Or.inl rfl | exact Or.inr rfl | exact b01_z _ | assumption) (Nat.le_refl _) (Nat.le_refl _) ⟨rfl, by clear hX h hl; first | (simp_all [tkEnding, up_rd]; done) | grind [tkEnding], by clear hX h hl; first | (simp_all [tkEnding, up_rd, chgTo_rd]; done) | grind [tkEnding, up_rd, chgTo_rd, chg_rd, settle_rd, bnd_rd], rfl⟩
    · refine j_aload_n h d_Rec_takeEnding_35 rfl ?_
      refine j_aload_n h d_Rec_takeEnding_36 rfl ?_
      refine j_iload_n h d_Rec_takeEnding_37 rfl ?_
      refine j_iload_n h d_Rec_takeEnding_38 rfl ?_
      refine j_callV h (c_Rec_mayEnd _ _ _ _ _ _ _ _ _ hr _ hq _ _) d_Rec_takeEnding_39 ml_Rec_64 mv_Rec_mayEnd (by assumption) ⟨rfl, rfl⟩ rfl rfl (Nat.le_of_ble_eq_true rfl) (hR_of hX (by decide) (by decide)) (hf_of hX (by decide) (by decide)) ?_
      rintro _ _ _ _ ⟨rfl, rfl, rfl, rfl⟩
      refine j_if_ne (tgt := 47) h d_Rec_takeEnding_42 (by decide) (fun c3 => ?_) (fun c3 => ?_)
      · refine j_aload_n h d_Rec_takeEnding_47 rfl ?_
        refine j_aload_n h d_Rec_takeEnding_48 rfl ?_
        refine j_get0 h d_Rec_takeEnding_49 fl_Rec_28 rfl (by assumption) ?_
        refine j_aload_n h d_Rec_takeEnding_52 rfl ?_
        refine j_get1 h d_Rec_takeEnding_53 fl_Rec_46 rfl (by assumption) ?_
        refine j_mmax h d_Rec_takeEnding_56 wm_Rec_54 (hM_of hX (by decide) (Nat.le_of_ble_eq_true rfl)) (hf_of (mc' := 0) (ms' := 0) hX (by decide) (by decide)) ?_
        refine j_put0 h d_Rec_takeEnding_59 fw_Rec_28 rfl rfl (by assumption) ?_
        refine j_aload_n h d_Rec_takeEnding_62 rfl ?_
        refine j_iconst (v := 0) h d_Rec_takeEnding_63 (by decide) ?_
        refine j_callV h (c_Rec_settle _ _ _ _ _ _ _ _ _ hr _) d_Rec_takeEnding_64 ml_Rec_68 mv_Rec_settle (by assumption) ⟨rfl, rfl⟩ rfl rfl (Nat.le_of_ble_eq_true rfl) (hR_of hX (by decide) (by decide)) (hf_of hX (by decide) (by decide)) ?_
        rintro _ _ _ _ ⟨rfl, rfl, rfl, rfl⟩
        refine j_iconst (v := 1) h d_Rec_takeEnding_67 (by decide) ?_
        exact j_zret hX d_Rec_takeEnding_68 rfl (by first | exact Or.inl rfl | exact Or.inr rfl | exact b01_z _ | assumption) (Nat.le_refl _) (Nat.le_refl _) ⟨rfl, by clear hX h hl; first | (simp_all [tkEnding, up_rd]; done) | grind [tkEnding], by clear hX h hl; first | (simp_all [tkEnding, up_rd, chgTo_rd]; done) | grind [tkEnding, up_rd, chgTo_rd, chg_rd, settle_rd, bnd_rd], rfl⟩
      · refine j_iconst (v := 0) h d_Rec_takeEnding_45 (by decide) ?_
        exact j_zret hX d_Rec_takeEnding_46 rfl (by first | exact Or.inl rfl | exact Or.inr rfl | exact b01_z _ | assumption) (Nat.le_refl _) (Nat.le_refl _) ⟨rfl, by clear hX h hl; first | (simp_all [tkEnding, up_rd]; done) | grind [tkEnding], by clear hX h hl; first | (simp_all [tkEnding, up_rd, chgTo_rd]; done) | grind [tkEnding, up_rd, chgTo_rd, chg_rd, settle_rd, bnd_rd], rfl⟩
  · refine j_aload_n h d_Rec_takeEnding_7 rfl ?_
    refine j_aload_n h d_Rec_takeEnding_8 rfl ?_
    refine j_get0 h d_Rec_takeEnding_9 fl_Rec_28 rfl (by assumption) ?_
    refine j_aload_n h d_Rec_takeEnding_12 rfl ?_
    refine j_get1 h d_Rec_takeEnding_13 fl_Rec_46 rfl (by assumption) ?_
    refine j_mmax h d_Rec_takeEnding_16 wm_Rec_54 (hM_of hX (by decide) (Nat.le_of_ble_eq_true rfl)) (hf_of (mc' := 0) (ms' := 0) hX (by decide) (by decide)) ?_
    refine j_put0 h d_Rec_takeEnding_19 fw_Rec_28 rfl rfl (by assumption) ?_
    refine j_iconst (v := 1) h d_Rec_takeEnding_22 (by decide) ?_
    exact j_zret hX d_Rec_takeEnding_23 rfl (by first | exact Or.inl rfl | exact Or.inr rfl | exact b01_z _ | assumption) (Nat.le_refl _) (Nat.le_refl _) ⟨rfl, by clear hX h hl; first | (simp_all [tkEnding, up_rd]; done) | grind [tkEnding], by clear hX h hl; first | (simp_all [tkEnding, up_rd, chgTo_rd]; done) | grind [tkEnding, up_rd, chgTo_rd, chg_rd, settle_rd, bnd_rd], rfl⟩
theorem d_Rec_takeGiven_0 : decode b_Rec_takeGiven 0 = .ok (.aload_n 0, 1) := by decide +kernel
theorem d_Rec_takeGiven_1 : decode b_Rec_takeGiven 1 = .ok (.getfield 9, 3) := by decide +kernel
theorem d_Rec_takeGiven_4 : decode b_Rec_takeGiven 4 = .ok (.ifCond .eq 5, 3) := by decide +kernel
theorem d_Rec_takeGiven_7 : decode b_Rec_takeGiven 7 = .ok (.iconst 0, 1) := by decide +kernel
theorem d_Rec_takeGiven_8 : decode b_Rec_takeGiven 8 = .ok (.ireturn, 1) := by decide +kernel
theorem d_Rec_takeGiven_9 : decode b_Rec_takeGiven 9 = .ok (.aload_n 0, 1) := by decide +kernel
theorem d_Rec_takeGiven_10 : decode b_Rec_takeGiven 10 = .ok (.iconst 1, 1) := by decide +kernel
theorem d_Rec_takeGiven_11 : decode b_Rec_takeGiven 11 = .ok (.invokevirtual 68, 3) := by decide +kernel
theorem d_Rec_takeGiven_14 : decode b_Rec_takeGiven 14 = .ok (.iconst 1, 1) := by decide +kernel
theorem d_Rec_takeGiven_15 : decode b_Rec_takeGiven 15 = .ok (.ireturn, 1) := by decide +kernel
set_option maxRecDepth 100000 in
set_option maxHeartbeats 4000000 in
theorem c_Rec_takeGiven (l : Launch) (K : Kx) (V : Vx) (A B C D : MI) (P : MP) (r : Nat) (hr : V.1 2 r) : Ct l K md_Rec_takeGiven (1, 21) 0 0 [.ref (K.ad 2 r)] V (bk4 A B C D) P (EQ V (some (.int (tkGiven A r).1)) (bk4 (tkGiven A r).2 B C D) P) := by
  refine ct_of [(0, .ref (K.ad 2 r))] (by decide) (Nat.le_of_ble_eq_true rfl) (ca_r ca_n) rfl ?_
  intro X hl hX
  have h : OkX X b_Rec_takeGiven R_Rec K := hX.1
  have hN : X.nL = 1 := hX.2.1
  refine j_aload_n h d_Rec_takeGiven_0 rfl ?_
  refine j_get0 h d_Rec_takeGiven_1 fl_Rec_9 rfl (by assumption) ?_
  refine j_if_eq (tgt := 9) h d_Rec_takeGiven_4 (by decide) (fun c1 => ?_) (fun c1 => ?_)
  · refine j_aload_n h d_Rec_takeGiven_9 rfl ?_
    refine j_iconst (v := 1) h d_Rec_takeGiven_10 (by decide) ?_
    refine j_callV h (c_Rec_settle _ _ _ _ _ _ _ _ _ hr _) d_Rec_takeGiven_11 ml_Rec_68 mv_Rec_settle (by assumption) ⟨rfl, rfl⟩ rfl rfl (Nat.le_of_ble_eq_true rfl) (hR_of hX (by decide) (by decide)) (hf_of hX (by decide) (by decide)) ?_
    rintro _ _ _ _ ⟨rfl, rfl, rfl, rfl⟩
    refine j_iconst (v := 1) h d_Rec_takeGiven_14 (by decide) ?_
    exact j_zret hX d_Rec_takeGiven_15 rfl (by first | exact Or.inl rfl | exact Or.inr rfl | exact b01_z _ | assumption) (Nat.le_refl _) (Nat.le_refl _) ⟨rfl, by clear hX h hl; first | (simp_all [tkGiven, up_rd]; done) | grind [tkGiven], by clear hX h hl; first | (simp_all [tkGiven, up_rd, chgTo_rd]; done) | grind [tkGiven, up_rd, chgTo_rd, chg_rd, settle_rd, bnd_rd], rfl⟩
  · refine j_iconst (v := 0) h d_Rec_takeGiven_7 (by decide) ?_
    exact j_zret hX d_Rec_takeGiven_8 rfl (by first | exact Or.inl rfl | exact Or.inr rfl | exact b01_z _ | assumption) (Nat.le_refl _) (Nat.le_refl _) ⟨rfl, by clear hX h hl; first | (simp_all [tkGiven, up_rd]; done) | grind [tkGiven], by clear hX h hl; first | (simp_all [tkGiven, up_rd, chgTo_rd]; done) | grind [tkGiven, up_rd, chgTo_rd, chg_rd, settle_rd, bnd_rd], rfl⟩
theorem d_Rec_learnKnown_0 : decode b_Rec_learnKnown 0 = .ok (.aload_n 0, 1) := by decide +kernel
theorem d_Rec_learnKnown_1 : decode b_Rec_learnKnown 1 = .ok (.getfield 9, 3) := by decide +kernel
theorem d_Rec_learnKnown_4 : decode b_Rec_learnKnown 4 = .ok (.iconst 2, 1) := by decide +kernel
theorem d_Rec_learnKnown_5 : decode b_Rec_learnKnown 5 = .ok (.if_icmp .eq 11, 3) := by decide +kernel
theorem d_Rec_learnKnown_8 : decode b_Rec_learnKnown 8 = .ok (.aload_n 0, 1) := by decide +kernel
theorem d_Rec_learnKnown_9 : decode b_Rec_learnKnown 9 = .ok (.getfield 9, 3) := by decide +kernel
theorem d_Rec_learnKnown_12 : decode b_Rec_learnKnown 12 = .ok (.iconst 3, 1) := by decide +kernel
theorem d_Rec_learnKnown_13 : decode b_Rec_learnKnown 13 = .ok (.if_icmp .ne 18, 3) := by decide +kernel
theorem d_Rec_learnKnown_16 : decode b_Rec_learnKnown 16 = .ok (.aload_n 1, 1) := by decide +kernel
theorem d_Rec_learnKnown_17 : decode b_Rec_learnKnown 17 = .ok (.getfield 72, 3) := by decide +kernel
theorem d_Rec_learnKnown_20 : decode b_Rec_learnKnown 20 = .ok (.aload_n 0, 1) := by decide +kernel
theorem d_Rec_learnKnown_21 : decode b_Rec_learnKnown 21 = .ok (.getfield 37, 3) := by decide +kernel
theorem d_Rec_learnKnown_24 : decode b_Rec_learnKnown 24 = .ok (.if_icmp .lt 7, 3) := by decide +kernel
theorem d_Rec_learnKnown_27 : decode b_Rec_learnKnown 27 = .ok (.iconst 1, 1) := by decide +kernel
theorem d_Rec_learnKnown_28 : decode b_Rec_learnKnown 28 = .ok (.goto 4, 3) := by decide +kernel
theorem d_Rec_learnKnown_31 : decode b_Rec_learnKnown 31 = .ok (.iconst 0, 1) := by decide +kernel
theorem d_Rec_learnKnown_32 : decode b_Rec_learnKnown 32 = .ok (.istore_n 2, 1) := by decide +kernel
theorem d_Rec_learnKnown_33 : decode b_Rec_learnKnown 33 = .ok (.iload_n 2, 1) := by decide +kernel
theorem d_Rec_learnKnown_34 : decode b_Rec_learnKnown 34 = .ok (.ifCond .eq 14, 3) := by decide +kernel
theorem d_Rec_learnKnown_37 : decode b_Rec_learnKnown 37 = .ok (.aload_n 1, 1) := by decide +kernel
theorem d_Rec_learnKnown_38 : decode b_Rec_learnKnown 38 = .ok (.getfield 46, 3) := by decide +kernel
theorem d_Rec_learnKnown_41 : decode b_Rec_learnKnown 41 = .ok (.aload_n 0, 1) := by decide +kernel
theorem d_Rec_learnKnown_42 : decode b_Rec_learnKnown 42 = .ok (.getfield 40, 3) := by decide +kernel
theorem d_Rec_learnKnown_45 : decode b_Rec_learnKnown 45 = .ok (.if_icmp .gt 5, 3) := by decide +kernel
theorem d_Rec_learnKnown_48 : decode b_Rec_learnKnown 48 = .ok (.iconst 0, 1) := by decide +kernel
theorem d_Rec_learnKnown_49 : decode b_Rec_learnKnown 49 = .ok (.ireturn, 1) := by decide +kernel
theorem d_Rec_learnKnown_50 : decode b_Rec_learnKnown 50 = .ok (.aload_n 0, 1) := by decide +kernel
theorem d_Rec_learnKnown_51 : decode b_Rec_learnKnown 51 = .ok (.aload_n 1, 1) := by decide +kernel
theorem d_Rec_learnKnown_52 : decode b_Rec_learnKnown 52 = .ok (.getfield 46, 3) := by decide +kernel
theorem d_Rec_learnKnown_55 : decode b_Rec_learnKnown 55 = .ok (.putfield 40, 3) := by decide +kernel
theorem d_Rec_learnKnown_58 : decode b_Rec_learnKnown 58 = .ok (.iconst 1, 1) := by decide +kernel
theorem d_Rec_learnKnown_59 : decode b_Rec_learnKnown 59 = .ok (.ireturn, 1) := by decide +kernel
set_option maxRecDepth 100000 in
set_option maxHeartbeats 4000000 in
theorem c_Rec_learnKnown (l : Launch) (K : Kx) (V : Vx) (A B C D : MI) (P : MP) (r : Nat) (hr : V.1 2 r) (q : Nat) (hq : V.1 5 q) : Ct l K md_Rec_learnKnown (0, 0) 0 0 [.ref (K.ad 2 r), .ref (K.ad 5 q)] V (bk4 A B C D) P (EQ V (some (.int (lnKnown A r (B 85 q) (B 86 q)).1)) (bk4 (lnKnown A r (B 85 q) (B 86 q)).2 B C D) P) := by
  refine ct_of [(0, .ref (K.ad 2 r)), (1, .ref (K.ad 5 q))] (by decide) (Nat.le_of_ble_eq_true rfl) (ca_r (ca_r ca_n)) rfl ?_
  intro X hl hX
  have h : OkX X b_Rec_learnKnown R_Rec K := hX.1
  have hN : X.nL = 3 := hX.2.1
  refine j_aload_n h d_Rec_learnKnown_0 rfl ?_
  refine j_get0 h d_Rec_learnKnown_1 fl_Rec_9 rfl (by assumption) ?_
  refine j_iconst (v := 2) h d_Rec_learnKnown_4 (by decide) ?_
  refine j_ic_eq (tgt := 16) h d_Rec_learnKnown_5 (by decide) (fun c1 => ?_) (fun c1 => ?_)
  · refine j_aload_n h d_Rec_learnKnown_16 rfl ?_
    refine j_get1 h d_Rec_learnKnown_17 fl_Rec_72 rfl (by assumption) ?_
    refine j_aload_n h d_Rec_learnKnown_20 rfl ?_
    refine j_get0 h d_Rec_learnKnown_21 fl_Rec_37 rfl (by assumption) ?_
    refine j_ic_lt (tgt := 31) h d_Rec_learnKnown_24 (by decide) (fun c2 => ?_) (fun c2 => ?_)
    · refine j_iconst (v := 0) h d_Rec_learnKnown_31 (by decide) ?_
      refine j_istore_n h d_Rec_learnKnown_32 (Nat.lt_of_lt_of_eq (m := 3) (by decide) hN.symm) ?_
      refine j_iload_n h d_Rec_learnKnown_33 rfl ?_
      refine j_if_eq (tgt := 48) h d_Rec_learnKnown_34 (by decide) (fun c3 => ?_) (fun c3 => absurd c3 (by decide))
      refine j_iconst (v := 0) h d_Rec_learnKnown_48 (by decide) ?_
      exact j_zret hX d_Rec_learnKnown_49 rfl (by first | exact Or.inl rfl | exact Or.inr rfl | exact b01_z _ | assumption) (Nat.le_refl _) (Nat.le_refl _) ⟨rfl, by clear hX h hl; first | (simp_all [lnKnown, up_rd]; done) | grind [lnKnown], by clear hX h hl; first | (simp_all [lnKnown, up_rd, chgTo_rd]; done) | grind [lnKnown, up_rd, chgTo_rd, chg_rd, settle_rd, bnd_rd], rfl⟩
    · refine j_iconst (v := 1) h d_Rec_learnKnown_27 (by decide) ?_
      refine j_goto (tgt := 32) h d_Rec_learnKnown_28 (by decide) ?_
      refine j_istore_n h d_Rec_learnKnown_32 (Nat.lt_of_lt_of_eq (m := 3) (by decide) hN.symm) ?_
      refine j_iload_n h d_Rec_learnKnown_33 rfl ?_
      refine j_if_eq (tgt := 48) h d_Rec_learnKnown_34 (by decide) (fun c4 => absurd c4 (by decide)) (fun c4 => ?_)
      refine j_aload_n h d_Rec_learnKnown_37 rfl ?_
      refine j_get1 h d_Rec_learnKnown_38 fl_Rec_46 rfl (by assumption) ?_
      refine j_aload_n h d_Rec_learnKnown_41 rfl ?_
      refine j_get0 h d_Rec_learnKnown_42 fl_Rec_40 rfl (by assumption) ?_
      refine j_ic_gt (tgt := 50) h d_Rec_learnKnown_45 (by decide) (fun c5 => ?_) (fun c5 => ?_)
      · refine j_aload_n h d_Rec_learnKnown_50 rfl ?_
        refine j_aload_n h d_Rec_learnKnown_51 rfl ?_
        refine j_get1 h d_Rec_learnKnown_52 fl_Rec_46 rfl (by assumption) ?_
        refine j_put0 h d_Rec_learnKnown_55 fw_Rec_40 rfl rfl (by assumption) ?_
        refine j_iconst (v := 1) h d_Rec_learnKnown_58 (by decide) ?_
        exact j_zret hX d_Rec_learnKnown_59 rfl (by first | exact Or.inl rfl | exact Or.inr rfl | exact b01_z _ | assumption) (Nat.le_refl _) (Nat.le_refl _) ⟨rfl, by clear hX h hl; first | (simp_all [lnKnown, up_rd]; done) | grind [lnKnown], by clear hX h hl; first | (simp_all [lnKnown, up_rd, chgTo_rd]; done) | grind [lnKnown, up_rd, chgTo_rd, chg_rd, settle_rd, bnd_rd], rfl⟩
      · refine j_iconst (v := 0) h d_Rec_learnKnown_48 (by decide) ?_
        exact j_zret hX d_Rec_learnKnown_49 rfl (by first | exact Or.inl rfl | exact Or.inr rfl | exact b01_z _ | assumption) (Nat.le_refl _) (Nat.le_refl _) ⟨rfl, by clear hX h hl; first | (simp_all [lnKnown, up_rd]; done) | grind [lnKnown], by clear hX h hl; first | (simp_all [lnKnown, up_rd, chgTo_rd]; done) | grind [lnKnown, up_rd, chgTo_rd, chg_rd, settle_rd, bnd_rd], rfl⟩
  · refine j_aload_n h d_Rec_learnKnown_8 rfl ?_
    refine j_get0 h d_Rec_learnKnown_9 fl_Rec_9 rfl (by assumption) ?_
    refine j_iconst (v := 3) h d_Rec_learnKnown_12 (by decide) ?_
    refine j_ic_ne (tgt := 31) h d_Rec_learnKnown_13 (by decide) (fun c6 => ?_) (fun c6 => ?_)
    · refine j_iconst (v := 0) h d_Rec_learnKnown_31 (by decide) ?_
      refine j_istore_n h d_Rec_learnKnown_32 (Nat.lt_of_lt_of_eq (m := 3) (by decide) hN.symm) ?_
      refine j_iload_n h d_Rec_learnKnown_33 rfl ?_
      refine j_if_eq (tgt := 48) h d_Rec_learnKnown_34 (by decide) (fun c7 => ?_) (fun c7 => absurd c7 (by decide))
      refine j_iconst (v := 0) h d_Rec_learnKnown_48 (by decide) ?_
      exact j_zret hX d_Rec_learnKnown_49 rfl (by first | exact Or.inl rfl | exact Or.inr rfl | exact b01_z _ | assumption) (Nat.le_refl _) (Nat.le_refl _) ⟨rfl, by clear hX h hl; first | (simp_all [lnKnown, up_rd]; done) | grind [lnKnown], by clear hX h hl; first | (simp_all [lnKnown, up_rd, chgTo_rd]; done) | grind [lnKnown, up_rd, chgTo_rd, chg_rd, settle_rd, bnd_rd], rfl⟩
    · refine j_aload_n h d_Rec_learnKnown_16 rfl ?_
      refine j_get1 h d_Rec_learnKnown_17 fl_Rec_72 rfl (by assumption) ?_
      refine j_aload_n h d_Rec_learnKnown_20 rfl ?_
      refine j_get0 h d_Rec_learnKnown_21 fl_Rec_37 rfl (by assumption) ?_
      refine j_ic_lt (tgt := 31) h d_Rec_learnKnown_24 (by decide) (fun c8 => ?_) (fun c8 => ?_)
      · refine j_iconst (v := 0) h d_Rec_learnKnown_31 (by decide) ?_
        refine j_istore_n h d_Rec_learnKnown_32 (Nat.lt_of_lt_of_eq (m := 3) (by decide) hN.symm) ?_
        refine j_iload_n h d_Rec_learnKnown_33 rfl ?_
        refine j_if_eq (tgt := 48) h d_Rec_learnKnown_34 (by decide) (fun c9 => ?_) (fun c9 => absurd c9 (by decide))
        refine j_iconst (v := 0) h d_Rec_learnKnown_48 (by decide) ?_
        exact j_zret hX d_Rec_learnKnown_49 rfl (by first | exact Or.inl rfl | exact Or.inr rfl | exact b01_z _ | assumption) (Nat.le_refl _) (Nat.le_refl _) ⟨rfl, by clear hX h hl; first | (simp_all [lnKnown, up_rd]; done) | grind [lnKnown], by clear hX h hl; first | (simp_all [lnKnown, up_rd, chgTo_rd]; done) | grind [lnKnown, up_rd, chgTo_rd, chg_rd, settle_rd, bnd_rd], rfl⟩
      · refine j_iconst (v := 1) h d_Rec_learnKnown_27 (by decide) ?_
        refine j_goto (tgt := 32) h d_Rec_learnKnown_28 (by decide) ?_
        refine j_istore_n h d_Rec_learnKnown_32 (Nat.lt_of_lt_of_eq (m := 3) (by decide) hN.symm) ?_
        refine j_iload_n h d_Rec_learnKnown_33 rfl ?_
        refine j_if_eq (tgt := 48) h d_Rec_learnKnown_34 (by decide) (fun c10 => absurd c10 (by decide)) (fun c10 => ?_)
        refine j_aload_n h d_Rec_learnKnown_37 rfl ?_
        refine j_get1 h d_Rec_learnKnown_38 fl_Rec_46 rfl (by assumption) ?_
        refine j_aload_n h d_Rec_learnKnown_41 rfl ?_
        refine j_get0 h d_Rec_learnKnown_42 fl_Rec_40 rfl (by assumption) ?_
        refine j_ic_gt (tgt := 50) h d_Rec_learnKnown_45 (by decide) (fun c11 => ?_) (fun c11 => ?_)
        · refine j_aload_n h d_Rec_learnKnown_50 rfl ?_
          refine j_aload_n h d_Rec_learnKnown_51 rfl ?_
          refine j_get1 h d_Rec_learnKnown_52 fl_Rec_46 rfl (by assumption) ?_
          refine j_put0 h d_Rec_learnKnown_55 fw_Rec_40 rfl rfl (by assumption) ?_
          refine j_iconst (v := 1) h d_Rec_learnKnown_58 (by decide) ?_
          exact j_zret hX d_Rec_learnKnown_59 rfl (by first | exact Or.inl rfl | exact Or.inr rfl | exact b01_z _ | assumption) (Nat.le_refl _) (Nat.le_refl _) ⟨rfl, by clear hX h hl; first | (simp_all [lnKnown, up_rd]; done) | grind [lnKnown], by clear hX h hl; first | (simp_all [lnKnown, up_rd, chgTo_rd]; done) | grind [lnKnown, up_rd, chgTo_rd, chg_rd, settle_rd, bnd_rd], rfl⟩
        · refine j_iconst (v := 0) h d_Rec_learnKnown_48 (by decide) ?_
          exact j_zret hX d_Rec_learnKnown_49 rfl (by first | exact Or.inl rfl | exact Or.inr rfl | exact b01_z _ | assumption) (Nat.le_refl _) (Nat.le_refl _) ⟨rfl, by clear hX h hl; first | (simp_all [lnKnown, up_rd]; done) | grind [lnKnown], by clear hX h hl; first | (simp_all [lnKnown, up_rd, chgTo_rd]; done) | grind [lnKnown, up_rd, chgTo_rd, chg_rd, settle_rd, bnd_rd], rfl⟩
theorem d_Rec_learnAcknowledged_0 : decode b_Rec_learnAcknowledged 0 = .ok (.aload_n 0, 1) := by decide +kernel
theorem d_Rec_learnAcknowledged_1 : decode b_Rec_learnAcknowledged 1 = .ok (.getfield 21, 3) := by decide +kernel
theorem d_Rec_learnAcknowledged_4 : decode b_Rec_learnAcknowledged 4 = .ok (.ifCond .eq 14, 3) := by decide +kernel
theorem d_Rec_learnAcknowledged_7 : decode b_Rec_learnAcknowledged 7 = .ok (.aload_n 1, 1) := by decide +kernel
theorem d_Rec_learnAcknowledged_8 : decode b_Rec_learnAcknowledged 8 = .ok (.getfield 72, 3) := by decide +kernel
theorem d_Rec_learnAcknowledged_11 : decode b_Rec_learnAcknowledged 11 = .ok (.aload_n 0, 1) := by decide +kernel
theorem d_Rec_learnAcknowledged_12 : decode b_Rec_learnAcknowledged 12 = .ok (.getfield 18, 3) := by decide +kernel
theorem d_Rec_learnAcknowledged_15 : decode b_Rec_learnAcknowledged 15 = .ok (.if_icmp .eq 5, 3) := by decide +kernel
theorem d_Rec_learnAcknowledged_18 : decode b_Rec_learnAcknowledged 18 = .ok (.iconst 0, 1) := by decide +kernel
theorem d_Rec_learnAcknowledged_19 : decode b_Rec_learnAcknowledged 19 = .ok (.ireturn, 1) := by decide +kernel
theorem d_Rec_learnAcknowledged_20 : decode b_Rec_learnAcknowledged 20 = .ok (.aload_n 0, 1) := by decide +kernel
theorem d_Rec_learnAcknowledged_21 : decode b_Rec_learnAcknowledged 21 = .ok (.iconst 0, 1) := by decide +kernel
theorem d_Rec_learnAcknowledged_22 : decode b_Rec_learnAcknowledged 22 = .ok (.putfield 21, 3) := by decide +kernel
theorem d_Rec_learnAcknowledged_25 : decode b_Rec_learnAcknowledged 25 = .ok (.aload_n 0, 1) := by decide +kernel
theorem d_Rec_learnAcknowledged_26 : decode b_Rec_learnAcknowledged 26 = .ok (.getfield 9, 3) := by decide +kernel
theorem d_Rec_learnAcknowledged_29 : decode b_Rec_learnAcknowledged 29 = .ok (.iconst 3, 1) := by decide +kernel
theorem d_Rec_learnAcknowledged_30 : decode b_Rec_learnAcknowledged 30 = .ok (.if_icmp .eq 11, 3) := by decide +kernel
theorem d_Rec_learnAcknowledged_33 : decode b_Rec_learnAcknowledged 33 = .ok (.aload_n 0, 1) := by decide +kernel
theorem d_Rec_learnAcknowledged_34 : decode b_Rec_learnAcknowledged 34 = .ok (.getfield 9, 3) := by decide +kernel
theorem d_Rec_learnAcknowledged_37 : decode b_Rec_learnAcknowledged 37 = .ok (.iconst 4, 1) := by decide +kernel
theorem d_Rec_learnAcknowledged_38 : decode b_Rec_learnAcknowledged 38 = .ok (.if_icmp .ne 35, 3) := by decide +kernel
theorem d_Rec_learnAcknowledged_41 : decode b_Rec_learnAcknowledged 41 = .ok (.aload_n 0, 1) := by decide +kernel
theorem d_Rec_learnAcknowledged_42 : decode b_Rec_learnAcknowledged 42 = .ok (.aload_n 0, 1) := by decide +kernel
theorem d_Rec_learnAcknowledged_43 : decode b_Rec_learnAcknowledged 43 = .ok (.getfield 9, 3) := by decide +kernel
theorem d_Rec_learnAcknowledged_46 : decode b_Rec_learnAcknowledged 46 = .ok (.iconst 3, 1) := by decide +kernel
theorem d_Rec_learnAcknowledged_47 : decode b_Rec_learnAcknowledged 47 = .ok (.if_icmp .ne 7, 3) := by decide +kernel
theorem d_Rec_learnAcknowledged_50 : decode b_Rec_learnAcknowledged 50 = .ok (.iconst 1, 1) := by decide +kernel
theorem d_Rec_learnAcknowledged_51 : decode b_Rec_learnAcknowledged 51 = .ok (.goto 4, 3) := by decide +kernel
theorem d_Rec_learnAcknowledged_54 : decode b_Rec_learnAcknowledged 54 = .ok (.iconst 0, 1) := by decide +kernel
theorem d_Rec_learnAcknowledged_55 : decode b_Rec_learnAcknowledged 55 = .ok (.putfield 9, 3) := by decide +kernel
theorem d_Rec_learnAcknowledged_58 : decode b_Rec_learnAcknowledged 58 = .ok (.aload_n 0, 1) := by decide +kernel
theorem d_Rec_learnAcknowledged_59 : decode b_Rec_learnAcknowledged 59 = .ok (.aload_n 0, 1) := by decide +kernel
theorem d_Rec_learnAcknowledged_60 : decode b_Rec_learnAcknowledged 60 = .ok (.getfield 75, 3) := by decide +kernel
theorem d_Rec_learnAcknowledged_63 : decode b_Rec_learnAcknowledged 63 = .ok (.aload_n 1, 1) := by decide +kernel
theorem d_Rec_learnAcknowledged_64 : decode b_Rec_learnAcknowledged 64 = .ok (.getfield 78, 3) := by decide +kernel
theorem d_Rec_learnAcknowledged_67 : decode b_Rec_learnAcknowledged 67 = .ok (.invokestatic 54, 3) := by decide +kernel
theorem d_Rec_learnAcknowledged_70 : decode b_Rec_learnAcknowledged 70 = .ok (.putfield 75, 3) := by decide +kernel
theorem d_Rec_learnAcknowledged_73 : decode b_Rec_learnAcknowledged 73 = .ok (.iconst 1, 1) := by decide +kernel
theorem d_Rec_learnAcknowledged_74 : decode b_Rec_learnAcknowledged 74 = .ok (.ireturn, 1) := by decide +kernel
set_option maxRecDepth 100000 in
set_option maxHeartbeats 4000000 in
theorem c_Rec_learnAcknowledged (l : Launch) (K : Kx) (V : Vx) (A B C D : MI) (P : MP) (r : Nat) (hr : V.1 2 r) (q : Nat) (hq : V.1 5 q) : Ct l K md_Rec_learnAcknowledged (1, 20) 0 0 [.ref (K.ad 2 r), .ref (K.ad 5 q)] V (bk4 A B C D) P (EQ V (some (.int (lnAck A r (B 85 q) (B 94 q)).1)) (bk4 (lnAck A r (B 85 q) (B 94 q)).2 B C D) P) := by
  refine ct_of [(0, .ref (K.ad 2 r)), (1, .ref (K.ad 5 q))] (by decide) (Nat.le_of_ble_eq_true rfl) (ca_r (ca_r ca_n)) rfl ?_
  intro X hl hX
  have h : OkX X b_Rec_learnAcknowledged R_Rec K := hX.1
  have hN : X.nL = 2 := hX.2.1
  refine j_aload_n h d_Rec_learnAcknowledged_0 rfl ?_
  refine j_get0 h d_Rec_learnAcknowledged_1 fl_Rec_21 rfl (by assumption) ?_
  refine j_if_eq (tgt := 18) h d_Rec_learnAcknowledged_4 (by decide) (fun c1 => ?_) (fun c1 => ?_)
  · refine j_iconst (v := 0) h d_Rec_learnAcknowledged_18 (by decide) ?_
    exact j_zret hX d_Rec_learnAcknowledged_19 rfl (by first | exact Or.inl rfl | exact Or.inr rfl | exact b01_z _ | assumption) (Nat.le_refl _) (Nat.le_refl _) ⟨rfl, by clear hX h hl; first | (simp_all [lnAck, up_rd]; done) | grind [lnAck], by clear hX h hl; first | (simp_all [lnAck, up_rd, chgTo_rd]; done) | grind [lnAck, up_rd, chgTo_rd, chg_rd, settle_rd, bnd_rd], rfl⟩
  · refine j_aload_n h d_Rec_learnAcknowledged_7 rfl ?_
    refine j_get1 h d_Rec_learnAcknowledged_8 fl_Rec_72 rfl (by assumption) ?_
    refine j_aload_n h d_Rec_learnAcknowledged_11 rfl ?_
    refine j_get0 h d_Rec_learnAcknowledged_12 fl_Rec_18 rfl (by assumption) ?_
    refine j_ic_eq (tgt := 20) h d_Rec_learnAcknowledged_15 (by decide) (fun c2 => ?_) (fun c2 => ?_)
    · refine j_aload_n h d_Rec_learnAcknowledged_20 rfl ?_
      refine j_iconst (v := 0) h d_Rec_learnAcknowledged_21 (by decide) ?_
      refine j_putZ0 h d_Rec_learnAcknowledged_22 fw_Rec_21 rfl rfl (by assumption) (by first | exact Or.inl rfl | exact Or.inr rfl | assumption) ?_
      refine j_aload_n h d_Rec_learnAcknowledged_25 rfl ?_
      refine j_get0 h d_Rec_learnAcknowledged_26 fl_Rec_9 rfl (by assumption) ?_
      refine j_iconst (v := 3) h d_Rec_learnAcknowledged_29 (by decide) ?_
      refine j_ic_eq (tgt := 41) h d_Rec_learnAcknowledged_30 (by decide) (fun c3 => ?_) (fun c3 => ?_)
      · refine j_aload_n h d_Rec_learnAcknowledged_41 rfl ?_
        refine j_aload_n h d_Rec_learnAcknowledged_42 rfl ?_
        refine j_get0 h d_Rec_learnAcknowledged_43 fl_Rec_9 rfl (by assumption) ?_
        refine j_iconst (v := 3) h d_Rec_learnAcknowledged_46 (by decide) ?_
        refine j_ic_ne (tgt := 54) h d_Rec_learnAcknowledged_47 (by decide) (fun c4 => ?_) (fun c4 => ?_)
        · refine j_iconst (v := 0) h d_Rec_learnAcknowledged_54 (by decide) ?_
          refine j_put0 h d_Rec_learnAcknowledged_55 fw_Rec_9 rfl rfl (by assumption) ?_
          refine j_aload_n h d_Rec_learnAcknowledged_58 rfl ?_
          refine j_aload_n h d_Rec_learnAcknowledged_59 rfl ?_
          refine j_get0 h d_Rec_learnAcknowledged_60 fl_Rec_75 rfl (by assumption) ?_
          refine j_aload_n h d_Rec_learnAcknowledged_63 rfl ?_
          refine j_get1 h d_Rec_learnAcknowledged_64 fl_Rec_78 rfl (by assumption) ?_
          refine j_mmax h d_Rec_learnAcknowledged_67 wm_Rec_54 (hM_of hX (by decide) (Nat.le_of_ble_eq_true rfl)) (hf_of (mc' := 0) (ms' := 0) hX (by decide) (by decide)) ?_
          refine j_put0 h d_Rec_learnAcknowledged_70 fw_Rec_75 rfl rfl (by assumption) ?_
          refine j_iconst (v := 1) h d_Rec_learnAcknowledged_73 (by decide) ?_
          exact j_zret hX d_Rec_learnAcknowledged_74 rfl (by first | exact Or.inl rfl | exact Or.inr rfl | exact b01_z _ | assumption) (Nat.le_refl _) (Nat.le_refl _) ⟨rfl, by clear hX h hl; first | (simp_all [lnAck, up_rd]; done) | grind [lnAck], by clear hX h hl; first | (simp_all [lnAck, up_rd, chgTo_rd]; done) | grind [lnAck, up_rd, chgTo_rd, chg_rd, settle_rd, bnd_rd], rfl⟩
        · refine j_iconst (v := 1) h d_Rec_learnAcknowledged_50 (by decide) ?_
          refine j_goto (tgt := 55) h d_Rec_learnAcknowledged_51 (by decide) ?_
          refine j_put0 h d_Rec_learnAcknowledged_55 fw_Rec_9 rfl rfl (by assumption) ?_
          refine j_aload_n h d_Rec_learnAcknowledged_58 rfl ?_
          refine j_aload_n h d_Rec_learnAcknowledged_59 rfl ?_
          refine j_get0 h d_Rec_learnAcknowledged_60 fl_Rec_75 rfl (by assumption) ?_
          refine j_aload_n h d_Rec_learnAcknowledged_63 rfl ?_
          refine j_get1 h d_Rec_learnAcknowledged_64 fl_Rec_78 rfl (by assumption) ?_
          refine j_mmax h d_Rec_learnAcknowledged_67 wm_Rec_54 (hM_of hX (by decide) (Nat.le_of_ble_eq_true rfl)) (hf_of (mc' := 0) (ms' := 0) hX (by decide) (by decide)) ?_
          refine j_put0 h d_Rec_learnAcknowledged_70 fw_Rec_75 rfl rfl (by assumption) ?_
          refine j_iconst (v := 1) h d_Rec_learnAcknowledged_73 (by decide) ?_
          exact j_zret hX d_Rec_learnAcknowledged_74 rfl (by first | exact Or.inl rfl | exact Or.inr rfl | exact b01_z _ | assumption) (Nat.le_refl _) (Nat.le_refl _) ⟨rfl, by clear hX h hl; first | (simp_all [lnAck, up_rd]; done) | grind [lnAck], by clear hX h hl; first | (simp_all [lnAck, up_rd, chgTo_rd]; done) | grind [lnAck, up_rd, chgTo_rd, chg_rd, settle_rd, bnd_rd], rfl⟩
      · refine j_aload_n h d_Rec_learnAcknowledged_33 rfl ?_
        refine j_get0 h d_Rec_learnAcknowledged_34 fl_Rec_9 rfl (by assumption) ?_
        refine j_iconst (v := 4) h d_Rec_learnAcknowledged_37 (by decide) ?_
        refine j_ic_ne (tgt := 73) h d_Rec_learnAcknowledged_38 (by decide) (fun c5 => ?_) (fun c5 => ?_)
        · refine j_iconst (v := 1) h d_Rec_learnAcknowledged_73 (by decide) ?_
          exact j_zret hX d_Rec_learnAcknowledged_74 rfl (by first | exact Or.inl rfl | exact Or.inr rfl | exact b01_z _ | assumption) (Nat.le_refl _) (Nat.le_refl _) ⟨rfl, by clear hX h hl; first | (simp_all [lnAck, up_rd]; done) | grind [lnAck], by clear hX h hl; first | (simp_all [lnAck, up_rd, chgTo_rd]; done) | grind [lnAck, up_rd, chgTo_rd, chg_rd, settle_rd, bnd_rd], rfl⟩
        · refine j_aload_n h d_Rec_learnAcknowledged_41 rfl ?_
          refine j_aload_n h d_Rec_learnAcknowledged_42 rfl ?_
          refine j_get0 h d_Rec_learnAcknowledged_43 fl_Rec_9 rfl (by assumption) ?_
          refine j_iconst (v := 3) h d_Rec_learnAcknowledged_46 (by decide) ?_
          refine j_ic_ne (tgt := 54) h d_Rec_learnAcknowledged_47 (by decide) (fun c6 => ?_) (fun c6 => ?_)
          · refine j_iconst (v := 0) h d_Rec_learnAcknowledged_54 (by decide) ?_
            refine j_put0 h d_Rec_learnAcknowledged_55 fw_Rec_9 rfl rfl (by assumption) ?_
            refine j_aload_n h d_Rec_learnAcknowledged_58 rfl ?_
            refine j_aload_n h d_Rec_learnAcknowledged_59 rfl ?_
            refine j_get0 h d_Rec_learnAcknowledged_60 fl_Rec_75 rfl (by assumption) ?_
            refine j_aload_n h d_Rec_learnAcknowledged_63 rfl ?_
            refine j_get1 h d_Rec_learnAcknowledged_64 fl_Rec_78 rfl (by assumption) ?_
            refine j_mmax h d_Rec_learnAcknowledged_67 wm_Rec_54 (hM_of hX (by decide) (Nat.le_of_ble_eq_true rfl)) (hf_of (mc' := 0) (ms' := 0) hX (by decide) (by decide)) ?_
            refine j_put0 h d_Rec_learnAcknowledged_70 fw_Rec_75 rfl rfl (by assumption) ?_
            refine j_iconst (v := 1) h d_Rec_learnAcknowledged_73 (by decide) ?_
            exact j_zret hX d_Rec_learnAcknowledged_74 rfl (by first | exact Or.inl rfl | exact Or.inr rfl | exact b01_z _ | assumption) (Nat.le_refl _) (Nat.le_refl _) ⟨rfl, by clear hX h hl; first | (simp_all [lnAck, up_rd]; done) | grind [lnAck], by clear hX h hl; first | (simp_all [lnAck, up_rd, chgTo_rd]; done) | grind [lnAck, up_rd, chgTo_rd, chg_rd, settle_rd, bnd_rd], rfl⟩
          · refine j_iconst (v := 1) h d_Rec_learnAcknowledged_50 (by decide) ?_
            refine j_goto (tgt := 55) h d_Rec_learnAcknowledged_51 (by decide) ?_
            refine j_put0 h d_Rec_learnAcknowledged_55 fw_Rec_9 rfl rfl (by assumption) ?_
            refine j_aload_n h d_Rec_learnAcknowledged_58 rfl ?_
            refine j_aload_n h d_Rec_learnAcknowledged_59 rfl ?_
            refine j_get0 h d_Rec_learnAcknowledged_60 fl_Rec_75 rfl (by assumption) ?_
            refine j_aload_n h d_Rec_learnAcknowledged_63 rfl ?_
            refine j_get1 h d_Rec_learnAcknowledged_64 fl_Rec_78 rfl (by assumption) ?_
            refine j_mmax h d_Rec_learnAcknowledged_67 wm_Rec_54 (hM_of hX (by decide) (Nat.le_of_ble_eq_true rfl)) (hf_of (mc' := 0) (ms' := 0) hX (by decide) (by decide)) ?_
            refine j_put0 h d_Rec_learnAcknowledged_70 fw_Rec_75 rfl rfl (by assumption) ?_
            refine j_iconst (v := 1) h d_Rec_learnAcknowledged_73 (by decide) ?_
            exact j_zret hX d_Rec_learnAcknowledged_74 rfl (by first | exact Or.inl rfl | exact Or.inr rfl | exact b01_z _ | assumption) (Nat.le_refl _) (Nat.le_refl _) ⟨rfl, by clear hX h hl; first | (simp_all [lnAck, up_rd]; done) | grind [lnAck], by clear hX h hl; first | (simp_all [lnAck, up_rd, chgTo_rd]; done) | grind [lnAck, up_rd, chgTo_rd, chg_rd, settle_rd, bnd_rd], rfl⟩
    · refine j_iconst (v := 0) h d_Rec_learnAcknowledged_18 (by decide) ?_
      exact j_zret hX d_Rec_learnAcknowledged_19 rfl (by first | exact Or.inl rfl | exact Or.inr rfl | exact b01_z _ | assumption) (Nat.le_refl _) (Nat.le_refl _) ⟨rfl, by clear hX h hl; first | (simp_all [lnAck, up_rd]; done) | grind [lnAck], by clear hX h hl; first | (simp_all [lnAck, up_rd, chgTo_rd]; done) | grind [lnAck, up_rd, chgTo_rd, chg_rd, settle_rd, bnd_rd], rfl⟩
