/-! hearing an UPDATE, a request -/
noncomputable def uTk (A : MI) (r s : Nat) (t : Int32) (x : Msg) : Int32 × MI := if A 19 r < x 5 then tkIn A r s (nI s) t (x 3) (x 9) (x 6) (x 10) (x 11) (x 13) (x 12) else (0, A)
noncomputable def uA2 (A : MI) (r s : Nat) (t : Int32) (x : Msg) : MI := if (uTk A r s t x).1 = 0 then (uTk A r s t x).2 else up (uTk A r s t x).2 19 r (x 5)
def uA3 (A : MI) (s n : Nat) : MI := if A 0 s = 1 ∧ ¬ allF A s n 0 = 0 then up (up A 0 s 2) 3 s (A 2 s) else A
def uA4 (A : MI) (s n : Nat) (v6 : Int32) : MI := if ¬ v6 = 0 ∨ (A 0 s = 1 ∧ ¬ allF A s n 0 = 0) then wr (uA3 A s n) s else uA3 A s n
def uN (A : MI) (s a : Nat) (v5 v6 : Int32) (x : Msg) (N : List Msg) : List Msg := if (¬ v6 = 0 ∨ ¬ v5 = 0) ∧ ¬ A 0 s = 0 then netput (m_ack A s a (x 5) (if x 3 = 2 then x 6 else 0)) N else N
def uA1 (A : MI) (r s : Nat) (x : Msg) : MI := if x 8 = A 2 s then up A 22 r 1 else A
noncomputable def hupA (A : MI) (r s n : Nat) (t : Int32) (x : Msg) : MI := if A 20 r < x 7 then uA4 (uA2 (uA1 A r s x) r s t x) s n (uTk (uA1 A r s x) r s t x).1 else A
noncomputable def hupN (A : MI) (s a n : Nat) (t : Int32) (x : Msg) (N : List Msg) : List Msg := if A 20 (32 * s + a) < x 7 then uN (hupA A (32 * s + a) s n t x) s a (b01 (x 5 = uA1 A (32 * s + a) s x 19 (32 * s + a))) (uTk (uA1 A (32 * s + a) s x) (32 * s + a) s t x).1 x N else N
theorem tkI_z (A : MI) (r s : Nat) (num t k c e rq rel vd sn : Int32) : (tkIn A r s num t k c e rq rel vd sn).1 = 0 ∨ (tkIn A r s num t k c e rq rel vd sn).1 = 1 := by
  unfold tkIn
  split
  · exact tkB_z _ _ _ _ _
  · split
    · exact tkE_z _ _ _ _ _ _ _ _
    · split
      · exact tkG_z _ _
      · split
        · exact b01_z _
        · exact Or.inr rfl
theorem c_Srv_takeIn_x (l : Launch) (K : Kx) (V : Vx) (A B C D : MI) (P : MP) (s : Nat) (hs : V.1 1 s) (q : Nat) (hq : V.1 5 q) (r : Nat) (hr : V.1 2 r) (t : Int32) (x : Msg) (hcm : CM B q x) (h3 : x 0 = 3) (hn : B 60 s = nI s) : Ct l K md_Srv_takeIn (3, 62) 0 0 [.ref (K.ad 1 s), .ref (K.ad 5 q), .ref (K.ad 2 r), .int t] V (bk4 A B C D) P (EQ V (some (.int (tkIn A r s (nI s) t (x 3) (x 9) (x 6) (x 10) (x 11) (x 13) (x 12)).1)) (bk4 (tkIn A r s (nI s) t (x 3) (x 9) (x 6) (x 10) (x 11) (x 13) (x 12)).2 B C D) P) := by
  have e := c_Srv_takeIn l K V A B C D P s hs q hq r hr t
  rw [hn, show B 83 q = x 3 from hcm.1 3 (by decide), show B 89 q = x 9 from hcm.2.1 h3 9 (by decide), show B 86 q = x 6 from hcm.1 6 (by decide), show B 90 q = x 10 from hcm.2.1 h3 10 (by decide), show B 91 q = x 11 from hcm.2.1 h3 11 (by decide), show B 93 q = x 13 from hcm.2.1 h3 13 (by decide), show B 92 q = x 12 from hcm.2.1 h3 12 (by decide)] at e
  exact e
theorem d_Srv_hearUpdate_0 : decode b_Srv_hearUpdate 0 = .ok (.aload_n 0, 1) := by decide +kernel
theorem d_Srv_hearUpdate_1 : decode b_Srv_hearUpdate 1 = .ok (.getfield 26, 3) := by decide +kernel
theorem d_Srv_hearUpdate_4 : decode b_Srv_hearUpdate 4 = .ok (.aload_n 1, 1) := by decide +kernel
theorem d_Srv_hearUpdate_5 : decode b_Srv_hearUpdate 5 = .ok (.getfield 81, 3) := by decide +kernel
theorem d_Srv_hearUpdate_8 : decode b_Srv_hearUpdate 8 = .ok (.aaload, 1) := by decide +kernel
theorem d_Srv_hearUpdate_9 : decode b_Srv_hearUpdate 9 = .ok (.astore 4, 2) := by decide +kernel
theorem d_Srv_hearUpdate_11 : decode b_Srv_hearUpdate 11 = .ok (.aload_n 1, 1) := by decide +kernel
theorem d_Srv_hearUpdate_12 : decode b_Srv_hearUpdate 12 = .ok (.getfield 161, 3) := by decide +kernel
theorem d_Srv_hearUpdate_15 : decode b_Srv_hearUpdate 15 = .ok (.aload 4, 2) := by decide +kernel
theorem d_Srv_hearUpdate_17 : decode b_Srv_hearUpdate 17 = .ok (.getfield 162, 3) := by decide +kernel
theorem d_Srv_hearUpdate_20 : decode b_Srv_hearUpdate 20 = .ok (.if_icmp .gt 4, 3) := by decide +kernel
theorem d_Srv_hearUpdate_23 : decode b_Srv_hearUpdate 23 = .ok (.return_, 1) := by decide +kernel
theorem d_Srv_hearUpdate_24 : decode b_Srv_hearUpdate 24 = .ok (.aload_n 1, 1) := by decide +kernel
theorem d_Srv_hearUpdate_25 : decode b_Srv_hearUpdate 25 = .ok (.getfield 165, 3) := by decide +kernel
theorem d_Srv_hearUpdate_28 : decode b_Srv_hearUpdate 28 = .ok (.aload_n 0, 1) := by decide +kernel
theorem d_Srv_hearUpdate_29 : decode b_Srv_hearUpdate 29 = .ok (.getfield 36, 3) := by decide +kernel
theorem d_Srv_hearUpdate_32 : decode b_Srv_hearUpdate 32 = .ok (.if_icmp .ne 9, 3) := by decide +kernel
theorem d_Srv_hearUpdate_35 : decode b_Srv_hearUpdate 35 = .ok (.aload 4, 2) := by decide +kernel
theorem d_Srv_hearUpdate_37 : decode b_Srv_hearUpdate 37 = .ok (.iconst 1, 1) := by decide +kernel
theorem d_Srv_hearUpdate_38 : decode b_Srv_hearUpdate 38 = .ok (.putfield 58, 3) := by decide +kernel
theorem d_Srv_hearUpdate_41 : decode b_Srv_hearUpdate 41 = .ok (.aload_n 1, 1) := by decide +kernel
theorem d_Srv_hearUpdate_42 : decode b_Srv_hearUpdate 42 = .ok (.getfield 125, 3) := by decide +kernel
theorem d_Srv_hearUpdate_45 : decode b_Srv_hearUpdate 45 = .ok (.aload 4, 2) := by decide +kernel
theorem d_Srv_hearUpdate_47 : decode b_Srv_hearUpdate 47 = .ok (.getfield 166, 3) := by decide +kernel
theorem d_Srv_hearUpdate_50 : decode b_Srv_hearUpdate 50 = .ok (.if_icmp .ne 7, 3) := by decide +kernel
theorem d_Srv_hearUpdate_53 : decode b_Srv_hearUpdate 53 = .ok (.iconst 1, 1) := by decide +kernel
theorem d_Srv_hearUpdate_54 : decode b_Srv_hearUpdate 54 = .ok (.goto 4, 3) := by decide +kernel
theorem d_Srv_hearUpdate_57 : decode b_Srv_hearUpdate 57 = .ok (.iconst 0, 1) := by decide +kernel
theorem d_Srv_hearUpdate_58 : decode b_Srv_hearUpdate 58 = .ok (.istore 5, 2) := by decide +kernel
theorem d_Srv_hearUpdate_60 : decode b_Srv_hearUpdate 60 = .ok (.aload_n 1, 1) := by decide +kernel
theorem d_Srv_hearUpdate_61 : decode b_Srv_hearUpdate 61 = .ok (.getfield 125, 3) := by decide +kernel
theorem d_Srv_hearUpdate_64 : decode b_Srv_hearUpdate 64 = .ok (.aload 4, 2) := by decide +kernel
theorem d_Srv_hearUpdate_66 : decode b_Srv_hearUpdate 66 = .ok (.getfield 166, 3) := by decide +kernel
theorem d_Srv_hearUpdate_69 : decode b_Srv_hearUpdate 69 = .ok (.if_icmp .le 18, 3) := by decide +kernel
theorem d_Srv_hearUpdate_72 : decode b_Srv_hearUpdate 72 = .ok (.aload_n 0, 1) := by decide +kernel
theorem d_Srv_hearUpdate_73 : decode b_Srv_hearUpdate 73 = .ok (.aload_n 1, 1) := by decide +kernel
theorem d_Srv_hearUpdate_74 : decode b_Srv_hearUpdate 74 = .ok (.aload 4, 2) := by decide +kernel
theorem d_Srv_hearUpdate_76 : decode b_Srv_hearUpdate 76 = .ok (.iload_n 2, 1) := by decide +kernel
theorem d_Srv_hearUpdate_77 : decode b_Srv_hearUpdate 77 = .ok (.invokevirtual 169, 3) := by decide +kernel
theorem d_Srv_hearUpdate_80 : decode b_Srv_hearUpdate 80 = .ok (.ifCond .eq 7, 3) := by decide +kernel
theorem d_Srv_hearUpdate_83 : decode b_Srv_hearUpdate 83 = .ok (.iconst 1, 1) := by decide +kernel
theorem d_Srv_hearUpdate_84 : decode b_Srv_hearUpdate 84 = .ok (.goto 4, 3) := by decide +kernel
theorem d_Srv_hearUpdate_87 : decode b_Srv_hearUpdate 87 = .ok (.iconst 0, 1) := by decide +kernel
theorem d_Srv_hearUpdate_88 : decode b_Srv_hearUpdate 88 = .ok (.istore 6, 2) := by decide +kernel
theorem d_Srv_hearUpdate_90 : decode b_Srv_hearUpdate 90 = .ok (.iload 6, 2) := by decide +kernel
theorem d_Srv_hearUpdate_92 : decode b_Srv_hearUpdate 92 = .ok (.ifCond .eq 12, 3) := by decide +kernel
theorem d_Srv_hearUpdate_95 : decode b_Srv_hearUpdate 95 = .ok (.aload 4, 2) := by decide +kernel
theorem d_Srv_hearUpdate_97 : decode b_Srv_hearUpdate 97 = .ok (.aload_n 1, 1) := by decide +kernel
theorem d_Srv_hearUpdate_98 : decode b_Srv_hearUpdate 98 = .ok (.getfield 125, 3) := by decide +kernel
theorem d_Srv_hearUpdate_101 : decode b_Srv_hearUpdate 101 = .ok (.putfield 166, 3) := by decide +kernel
theorem d_Srv_hearUpdate_104 : decode b_Srv_hearUpdate 104 = .ok (.aload_n 0, 1) := by decide +kernel
theorem d_Srv_hearUpdate_105 : decode b_Srv_hearUpdate 105 = .ok (.invokevirtual 173, 3) := by decide +kernel
theorem d_Srv_hearUpdate_108 : decode b_Srv_hearUpdate 108 = .ok (.istore 7, 2) := by decide +kernel
theorem d_Srv_hearUpdate_110 : decode b_Srv_hearUpdate 110 = .ok (.iload 6, 2) := by decide +kernel
theorem d_Srv_hearUpdate_112 : decode b_Srv_hearUpdate 112 = .ok (.ifCond .ne 8, 3) := by decide +kernel
theorem d_Srv_hearUpdate_115 : decode b_Srv_hearUpdate 115 = .ok (.iload 7, 2) := by decide +kernel
theorem d_Srv_hearUpdate_117 : decode b_Srv_hearUpdate 117 = .ok (.ifCond .eq 7, 3) := by decide +kernel
theorem d_Srv_hearUpdate_120 : decode b_Srv_hearUpdate 120 = .ok (.aload_n 0, 1) := by decide +kernel
theorem d_Srv_hearUpdate_121 : decode b_Srv_hearUpdate 121 = .ok (.invokevirtual 65, 3) := by decide +kernel
theorem d_Srv_hearUpdate_124 : decode b_Srv_hearUpdate 124 = .ok (.iload 6, 2) := by decide +kernel
theorem d_Srv_hearUpdate_126 : decode b_Srv_hearUpdate 126 = .ok (.ifCond .ne 8, 3) := by decide +kernel
theorem d_Srv_hearUpdate_129 : decode b_Srv_hearUpdate 129 = .ok (.iload 5, 2) := by decide +kernel
theorem d_Srv_hearUpdate_131 : decode b_Srv_hearUpdate 131 = .ok (.ifCond .eq 18, 3) := by decide +kernel
theorem d_Srv_hearUpdate_134 : decode b_Srv_hearUpdate 134 = .ok (.aload_n 0, 1) := by decide +kernel
theorem d_Srv_hearUpdate_135 : decode b_Srv_hearUpdate 135 = .ok (.getfield 33, 3) := by decide +kernel
theorem d_Srv_hearUpdate_138 : decode b_Srv_hearUpdate 138 = .ok (.ifCond .eq 11, 3) := by decide +kernel
theorem d_Srv_hearUpdate_141 : decode b_Srv_hearUpdate 141 = .ok (.aload_n 0, 1) := by decide +kernel
theorem d_Srv_hearUpdate_142 : decode b_Srv_hearUpdate 142 = .ok (.aload_n 1, 1) := by decide +kernel
theorem d_Srv_hearUpdate_143 : decode b_Srv_hearUpdate 143 = .ok (.aload 4, 2) := by decide +kernel
theorem d_Srv_hearUpdate_145 : decode b_Srv_hearUpdate 145 = .ok (.aload_n 3, 1) := by decide +kernel
theorem d_Srv_hearUpdate_146 : decode b_Srv_hearUpdate 146 = .ok (.invokevirtual 176, 3) := by decide +kernel
theorem d_Srv_hearUpdate_149 : decode b_Srv_hearUpdate 149 = .ok (.return_, 1) := by decide +kernel
set_option maxRecDepth 100000 in
set_option maxHeartbeats 4000000 in
theorem c_Srv_hearUpdate (l : Launch) (K : Kx) (V : Vx) (A B C D : MI) (P : MP) (n : Nat) (cs : CS K V P n) (s : Nat) (hs : s < 2) (ld sk : Int32) (N T : List Msg) (U : Msg) (hnc : NC K P B ld sk N T U) (q : Nat) (hq : V.1 5 q) (x : Msg) (hcm : CM B q x) (h3 : x 0 = 3) (hoff : offR K P q) (a : Nat) (ha : a < n) (hxa : x 4 = nI a) (t : Int32) : Ct l K md_Srv_hearUpdate (4, 85) 0 0 [.ref (K.ad 1 s), .ref (K.ad 5 q), .int t, .ref (K.ad 4 0)] V (bk4 A B C D) P (NP K V C D P ld sk none (hupA A (32 * s + a) s n t x) (hupN A s a n t x N) T U) := by
  refine ct_of [(0, .ref (K.ad 1 s)), (1, .ref (K.ad 5 q)), (2, .int t), (3, .ref (K.ad 4 0))] (by decide) (Nat.le_of_ble_eq_true rfl) (ca_r (ca_r (ca_i (ca_r ca_n)))) rfl ?_
  intro X hl hX
  have h : OkX X b_Srv_hearUpdate R_Srv K := hX.1
  have hN : X.nL = 8 := hX.2.1
  have hsv := cs_sv cs hs
  have hr := cs_rv cs hs ha
  have j124 : ∀ (Y : MI) (v5 v6 : Int32), hupA A (32 * s + a) s n t x = Y → hupN A s a n t x N = uN Y s a v5 v6 x N → J X K V (bk4 Y B C D) P 0 0 124 [(0, .ref (K.ad 1 s)), (1, .ref (K.ad 5 q)), (2, .int t), (3, .ref (K.ad 4 0)), (4, .ref (K.ad 2 (32 * s + a))), (5, .int v5), (6, .int v6)] [] := by
    intro Y v5 v6 eA eN
    refine j_iload h d_Srv_hearUpdate_124 rfl ?_
    refine j_if_ne (tgt := 134) h d_Srv_hearUpdate_126 (by decide) (fun c1 => ?_) (fun c1 => ?_)
    · refine j_aload_n h d_Srv_hearUpdate_134 rfl ?_
      refine j_get0 h d_Srv_hearUpdate_135 fl_Srv_33 rfl (by assumption) ?_
      refine j_if_eq (tgt := 149) h d_Srv_hearUpdate_138 (by decide) (fun c2 => ?_) (fun c2 => ?_)
      · exact j_vret hX d_Srv_hearUpdate_149 rfl (Nat.le_refl _) (Nat.le_refl _) ⟨rfl, rfl, rfl, _, by rw [eA], by first | (rw [eN, uN, if_neg (by clear hX h hl; grind)]; exact hnc) | (rw [eN, uN, if_pos (by clear hX h hl; grind)]; exact hn2)⟩
      · refine j_aload_n h d_Srv_hearUpdate_141 rfl ?_
        refine j_aload_n h d_Srv_hearUpdate_142 rfl ?_
        refine j_aload h d_Srv_hearUpdate_143 rfl ?_
        refine j_aload_n h d_Srv_hearUpdate_145 rfl ?_
        refine j_callV h (c_Srv_acknowledge _ _ _ _ _ _ _ _ _ cs _ hs _ _ _ _ _ hnc _ hq _ hcm hoff _ ha hxa) d_Srv_hearUpdate_146 ml_Srv_176 mv_Srv_acknowledge (by assumption) ⟨rfl, rfl⟩ rfl rfl (Nat.le_of_ble_eq_true rfl) (hR_of hX (by decide) (by decide)) (hf_of hX (by decide) (by decide)) ?_
        rintro _ _ _ _ ⟨rfl, rfl, rfl, B2, rfl, hn2⟩
        exact j_vret hX d_Srv_hearUpdate_149 rfl (Nat.le_refl _) (Nat.le_refl _) ⟨rfl, rfl, rfl, _, by rw [eA], by first | (rw [eN, uN, if_neg (by clear hX h hl; grind)]; exact hnc) | (rw [eN, uN, if_pos (by clear hX h hl; grind)]; exact hn2)⟩
    · refine j_iload h d_Srv_hearUpdate_129 rfl ?_
      refine j_if_eq (tgt := 149) h d_Srv_hearUpdate_131 (by decide) (fun c3 => ?_) (fun c3 => ?_)
      · exact j_vret hX d_Srv_hearUpdate_149 rfl (Nat.le_refl _) (Nat.le_refl _) ⟨rfl, rfl, rfl, _, by rw [eA], by first | (rw [eN, uN, if_neg (by clear hX h hl; grind)]; exact hnc) | (rw [eN, uN, if_pos (by clear hX h hl; grind)]; exact hn2)⟩
      · refine j_aload_n h d_Srv_hearUpdate_134 rfl ?_
        refine j_get0 h d_Srv_hearUpdate_135 fl_Srv_33 rfl (by assumption) ?_
        refine j_if_eq (tgt := 149) h d_Srv_hearUpdate_138 (by decide) (fun c4 => ?_) (fun c4 => ?_)
        · exact j_vret hX d_Srv_hearUpdate_149 rfl (Nat.le_refl _) (Nat.le_refl _) ⟨rfl, rfl, rfl, _, by rw [eA], by first | (rw [eN, uN, if_neg (by clear hX h hl; grind)]; exact hnc) | (rw [eN, uN, if_pos (by clear hX h hl; grind)]; exact hn2)⟩
        · refine j_aload_n h d_Srv_hearUpdate_141 rfl ?_
          refine j_aload_n h d_Srv_hearUpdate_142 rfl ?_
          refine j_aload h d_Srv_hearUpdate_143 rfl ?_
          refine j_aload_n h d_Srv_hearUpdate_145 rfl ?_
          refine j_callV h (c_Srv_acknowledge _ _ _ _ _ _ _ _ _ cs _ hs _ _ _ _ _ hnc _ hq _ hcm hoff _ ha hxa) d_Srv_hearUpdate_146 ml_Srv_176 mv_Srv_acknowledge (by assumption) ⟨rfl, rfl⟩ rfl rfl (Nat.le_of_ble_eq_true rfl) (hR_of hX (by decide) (by decide)) (hf_of hX (by decide) (by decide)) ?_
          rintro _ _ _ _ ⟨rfl, rfl, rfl, B2, rfl, hn2⟩
          exact j_vret hX d_Srv_hearUpdate_149 rfl (Nat.le_refl _) (Nat.le_refl _) ⟨rfl, rfl, rfl, _, by rw [eA], by first | (rw [eN, uN, if_neg (by clear hX h hl; grind)]; exact hnc) | (rw [eN, uN, if_pos (by clear hX h hl; grind)]; exact hn2)⟩
  have j104 : ∀ (Y : MI) (v5 v6 : Int32), hupA A (32 * s + a) s n t x = uA4 Y s n v6 → hupN A s a n t x N = uN (uA4 Y s n v6) s a v5 v6 x N → J X K V (bk4 Y B C D) P 0 0 104 [(0, .ref (K.ad 1 s)), (1, .ref (K.ad 5 q)), (2, .int t), (3, .ref (K.ad 4 0)), (4, .ref (K.ad 2 (32 * s + a))), (5, .int v5), (6, .int v6)] [] := by
    intro Y v5 v6 eA eN
    refine j_aload_n h d_Srv_hearUpdate_104 rfl ?_
    refine j_callV h (c_Srv_recover _ _ _ _ _ _ _ _ _ cs _ hs) d_Srv_hearUpdate_105 ml_Srv_173 mv_Srv_recover (by assumption) ⟨rfl, rfl⟩ rfl rfl (Nat.le_of_ble_eq_true rfl) (hR_of hX (by decide) (by decide)) (hf_of hX (by decide) (by decide)) ?_
    rintro _ _ _ _ ⟨rfl, rfl, rfl, rfl⟩
    refine j_istore h d_Srv_hearUpdate_108 (Nat.lt_of_lt_of_eq (m := 8) (by decide) hN.symm) ?_
    refine j_iload h d_Srv_hearUpdate_110 rfl ?_
    refine j_if_ne (tgt := 120) h d_Srv_hearUpdate_112 (by decide) (fun c1 => ?_) (fun c1 => ?_)
    · refine j_aload_n h d_Srv_hearUpdate_120 rfl ?_
      refine j_callV h (c_Srv_write _ _ _ _ _ _ _ _ _ hsv) d_Srv_hearUpdate_121 ml_Srv_65 mv_Srv_write (by assumption) ⟨rfl, rfl⟩ rfl rfl (Nat.le_of_ble_eq_true rfl) (hR_of hX (by decide) (by decide)) (hf_of hX (by decide) (by decide)) ?_
      rintro _ _ _ _ ⟨rfl, rfl, rfl, rfl⟩
      refine j_lv (lv' := [(0, .ref (K.ad 1 s)), (1, .ref (K.ad 5 q)), (2, .int t), (3, .ref (K.ad 4 0)), (4, .ref (K.ad 2 (32 * s + a))), (5, .int v5), (6, .int v6)]) (lvs rfl (lvs rfl (lvs rfl (lvs rfl (lvs rfl (lvs rfl (lvs rfl lvs0))))))) ?_
      refine j124 _ v5 v6 (eA.trans ?_) (eN.trans (congrArg (fun z => uN z s a v5 v6 x N) ?_)) <;> (clear hX h hl j124 eA eN; first | (simp_all [uA4, uA3, b01_0]; done) | grind [uA4, uA3, b01_0])
    · refine j_iload h d_Srv_hearUpdate_115 rfl ?_
      refine j_if_eq (tgt := 124) h d_Srv_hearUpdate_117 (by decide) (fun c2 => ?_) (fun c2 => ?_)
      · refine j_lv (lv' := [(0, .ref (K.ad 1 s)), (1, .ref (K.ad 5 q)), (2, .int t), (3, .ref (K.ad 4 0)), (4, .ref (K.ad 2 (32 * s + a))), (5, .int v5), (6, .int v6)]) (lvs rfl (lvs rfl (lvs rfl (lvs rfl (lvs rfl (lvs rfl (lvs rfl lvs0))))))) ?_
        refine j124 _ v5 v6 (eA.trans ?_) (eN.trans (congrArg (fun z => uN z s a v5 v6 x N) ?_)) <;> (clear hX h hl j124 eA eN; first | (simp_all [uA4, uA3, b01_0]; done) | grind [uA4, uA3, b01_0])
      · refine j_aload_n h d_Srv_hearUpdate_120 rfl ?_
        refine j_callV h (c_Srv_write _ _ _ _ _ _ _ _ _ hsv) d_Srv_hearUpdate_121 ml_Srv_65 mv_Srv_write (by assumption) ⟨rfl, rfl⟩ rfl rfl (Nat.le_of_ble_eq_true rfl) (hR_of hX (by decide) (by decide)) (hf_of hX (by decide) (by decide)) ?_
        rintro _ _ _ _ ⟨rfl, rfl, rfl, rfl⟩
        refine j_lv (lv' := [(0, .ref (K.ad 1 s)), (1, .ref (K.ad 5 q)), (2, .int t), (3, .ref (K.ad 4 0)), (4, .ref (K.ad 2 (32 * s + a))), (5, .int v5), (6, .int v6)]) (lvs rfl (lvs rfl (lvs rfl (lvs rfl (lvs rfl (lvs rfl (lvs rfl lvs0))))))) ?_
        refine j124 _ v5 v6 (eA.trans ?_) (eN.trans (congrArg (fun z => uN z s a v5 v6 x N) ?_)) <;> (clear hX h hl j124 eA eN; first | (simp_all [uA4, uA3, b01_0]; done) | grind [uA4, uA3, b01_0])
  have j60 : ∀ (Y : MI) (v5 : Int32), hupA A (32 * s + a) s n t x = uA4 (uA2 Y (32 * s + a) s t x) s n (uTk Y (32 * s + a) s t x).1 → hupN A s a n t x N = uN (uA4 (uA2 Y (32 * s + a) s t x) s n (uTk Y (32 * s + a) s t x).1) s a v5 (uTk Y (32 * s + a) s t x).1 x N → J X K V (bk4 Y B C D) P 0 0 60 [(0, .ref (K.ad 1 s)), (1, .ref (K.ad 5 q)), (2, .int t), (3, .ref (K.ad 4 0)), (4, .ref (K.ad 2 (32 * s + a))), (5, .int v5)] [] := by
    intro Y v5 eA eN
    refine j_aload_n h d_Srv_hearUpdate_60 rfl ?_
    refine j_get1e (v := x 5) h d_Srv_hearUpdate_61 fl_Srv_125 rfl (by assumption) (hcm.1 5 (by decide)) ?_
    refine j_aload h d_Srv_hearUpdate_64 rfl ?_
    refine j_get0 h d_Srv_hearUpdate_66 fl_Srv_166 rfl (by assumption) ?_
    refine j_ic_le (tgt := 87) h d_Srv_hearUpdate_69 (by decide) (fun c1 => ?_) (fun c1 => ?_)
    · refine j_iconst (v := 0) h d_Srv_hearUpdate_87 (by decide) ?_
      refine j_istore h d_Srv_hearUpdate_88 (Nat.lt_of_lt_of_eq (m := 8) (by decide) hN.symm) ?_
      refine j_iload h d_Srv_hearUpdate_90 rfl ?_
      refine j_if_eq (tgt := 104) h d_Srv_hearUpdate_92 (by decide) (fun c2 => ?_) (fun c2 => absurd c2 (by decide))
      refine j_lv (lv' := [(0, .ref (K.ad 1 s)), (1, .ref (K.ad 5 q)), (2, .int t), (3, .ref (K.ad 4 0)), (4, .ref (K.ad 2 (32 * s + a))), (5, .int v5), (6, .int _)]) (lvs rfl (lvs rfl (lvs rfl (lvs rfl (lvs rfl (lvs rfl (lvs rfl lvs0))))))) ?_
      refine j104 _ v5 _ (eA.trans ?_) (eN.trans ?_) <;> (have hzz := tkI_z Y (32 * s + a) s (nI s) t (x 3) (x 9) (x 6) (x 10) (x 11) (x 13) (x 12); clear hX h hl j124 j104 eA eN; first | (simp_all [uA2, uTk]; done) | grind [uA2, uTk])
    · refine j_aload_n h d_Srv_hearUpdate_72 rfl ?_
      refine j_aload_n h d_Srv_hearUpdate_73 rfl ?_
      refine j_aload h d_Srv_hearUpdate_74 rfl ?_
      refine j_iload_n h d_Srv_hearUpdate_76 rfl ?_
      refine j_callV h (c_Srv_takeIn_x _ _ _ _ _ _ _ _ _ hsv _ hq _ hr _ _ hcm h3 (hnc.1 s hs).1) d_Srv_hearUpdate_77 ml_Srv_169 mv_Srv_takeIn (by assumption) ⟨rfl, rfl⟩ rfl rfl (Nat.le_of_ble_eq_true rfl) (hR_of hX (by decide) (by decide)) (hf_of hX (by decide) (by decide)) ?_
      rintro _ _ _ _ ⟨rfl, rfl, rfl, rfl⟩
      refine j_if_eq (tgt := 87) h d_Srv_hearUpdate_80 (by decide) (fun c3 => ?_) (fun c3 => ?_)
      · refine j_iconst (v := 0) h d_Srv_hearUpdate_87 (by decide) ?_
        refine j_istore h d_Srv_hearUpdate_88 (Nat.lt_of_lt_of_eq (m := 8) (by decide) hN.symm) ?_
        refine j_iload h d_Srv_hearUpdate_90 rfl ?_
        refine j_if_eq (tgt := 104) h d_Srv_hearUpdate_92 (by decide) (fun c4 => ?_) (fun c4 => absurd c4 (by decide))
        refine j_lv (lv' := [(0, .ref (K.ad 1 s)), (1, .ref (K.ad 5 q)), (2, .int t), (3, .ref (K.ad 4 0)), (4, .ref (K.ad 2 (32 * s + a))), (5, .int v5), (6, .int _)]) (lvs rfl (lvs rfl (lvs rfl (lvs rfl (lvs rfl (lvs rfl (lvs rfl lvs0))))))) ?_
        refine j104 _ v5 _ (eA.trans ?_) (eN.trans ?_) <;> (have hzz := tkI_z Y (32 * s + a) s (nI s) t (x 3) (x 9) (x 6) (x 10) (x 11) (x 13) (x 12); clear hX h hl j124 j104 eA eN; first | (simp_all [uA2, uTk]; done) | grind [uA2, uTk])
      · refine j_iconst (v := 1) h d_Srv_hearUpdate_83 (by decide) ?_
        refine j_goto (tgt := 88) h d_Srv_hearUpdate_84 (by decide) ?_
        refine j_istore h d_Srv_hearUpdate_88 (Nat.lt_of_lt_of_eq (m := 8) (by decide) hN.symm) ?_
        refine j_iload h d_Srv_hearUpdate_90 rfl ?_
        refine j_if_eq (tgt := 104) h d_Srv_hearUpdate_92 (by decide) (fun c5 => absurd c5 (by decide)) (fun c5 => ?_)
        refine j_aload h d_Srv_hearUpdate_95 rfl ?_
        refine j_aload_n h d_Srv_hearUpdate_97 rfl ?_
        refine j_get1e (v := x 5) h d_Srv_hearUpdate_98 fl_Srv_125 rfl (by assumption) (hcm.1 5 (by decide)) ?_
        refine j_put0 h d_Srv_hearUpdate_101 fw_Srv_166 rfl rfl (by assumption) ?_
        refine j_lv (lv' := [(0, .ref (K.ad 1 s)), (1, .ref (K.ad 5 q)), (2, .int t), (3, .ref (K.ad 4 0)), (4, .ref (K.ad 2 (32 * s + a))), (5, .int v5), (6, .int _)]) (lvs rfl (lvs rfl (lvs rfl (lvs rfl (lvs rfl (lvs rfl (lvs rfl lvs0))))))) ?_
        refine j104 _ v5 _ (eA.trans ?_) (eN.trans ?_) <;> (have hzz := tkI_z Y (32 * s + a) s (nI s) t (x 3) (x 9) (x 6) (x 10) (x 11) (x 13) (x 12); clear hX h hl j124 j104 eA eN; first | (simp_all [uA2, uTk]; done) | grind [uA2, uTk])
  refine j_aload_n h d_Srv_hearUpdate_0 rfl ?_
  refine j_getR h d_Srv_hearUpdate_1 fl_Srv_26 rfl (by assumption) (cs_rp cs hs) ?_
  refine j_aload_n h d_Srv_hearUpdate_4 rfl ?_
  refine j_get1e (v := nI a) h d_Srv_hearUpdate_5 fl_Srv_81 rfl (by assumption) ((hcm.1 4 (by decide)).trans hxa) ?_
  refine j_recs h cs hs ha d_Srv_hearUpdate_8 ?_
  refine j_astore h d_Srv_hearUpdate_9 (Nat.lt_of_lt_of_eq (m := 8) (by decide) hN.symm) ?_
  refine j_aload_n h d_Srv_hearUpdate_11 rfl ?_
  refine j_get1e (v := x 7) h d_Srv_hearUpdate_12 fl_Srv_161 rfl (by assumption) (hcm.2.1 h3 7 (by decide)) ?_
  refine j_aload h d_Srv_hearUpdate_15 rfl ?_
  refine j_get0 h d_Srv_hearUpdate_17 fl_Srv_162 rfl (by assumption) ?_
  refine j_ic_gt (tgt := 24) h d_Srv_hearUpdate_20 (by decide) (fun c1 => ?_) (fun c1 => ?_)
  · refine j_aload_n h d_Srv_hearUpdate_24 rfl ?_
    refine j_get1e (v := x 8) h d_Srv_hearUpdate_25 fl_Srv_165 rfl (by assumption) (hcm.2.1 h3 8 (by decide)) ?_
    refine j_aload_n h d_Srv_hearUpdate_28 rfl ?_
    refine j_get0 h d_Srv_hearUpdate_29 fl_Srv_36 rfl (by assumption) ?_
    refine j_ic_ne (tgt := 41) h d_Srv_hearUpdate_32 (by decide) (fun c2 => ?_) (fun c2 => ?_)
    · refine j_aload_n h d_Srv_hearUpdate_41 rfl ?_
      refine j_get1e (v := x 5) h d_Srv_hearUpdate_42 fl_Srv_125 rfl (by assumption) (hcm.1 5 (by decide)) ?_
      refine j_aload h d_Srv_hearUpdate_45 rfl ?_
      refine j_get0 h d_Srv_hearUpdate_47 fl_Srv_166 rfl (by assumption) ?_
      refine j_ic_ne (tgt := 57) h d_Srv_hearUpdate_50 (by decide) (fun c3 => ?_) (fun c3 => ?_)
      · refine j_iconst (v := 0) h d_Srv_hearUpdate_57 (by decide) ?_
        refine j_istore h d_Srv_hearUpdate_58 (Nat.lt_of_lt_of_eq (m := 8) (by decide) hN.symm) ?_
        refine j_lv (lv' := [(0, .ref (K.ad 1 s)), (1, .ref (K.ad 5 q)), (2, .int t), (3, .ref (K.ad 4 0)), (4, .ref (K.ad 2 (32 * s + a))), (5, .int _)]) (lvs rfl (lvs rfl (lvs rfl (lvs rfl (lvs rfl (lvs rfl lvs0)))))) ?_
        refine j60 _ _ ?_ ?_ <;> (clear hX h hl j124 j104 j60; first | (simp_all [hupA, hupN, uA1, b01, up_rd]; done) | grind [hupA, hupN, uA1, b01, up_rd])
      · refine j_iconst (v := 1) h d_Srv_hearUpdate_53 (by decide) ?_
        refine j_goto (tgt := 58) h d_Srv_hearUpdate_54 (by decide) ?_
        refine j_istore h d_Srv_hearUpdate_58 (Nat.lt_of_lt_of_eq (m := 8) (by decide) hN.symm) ?_
        refine j_lv (lv' := [(0, .ref (K.ad 1 s)), (1, .ref (K.ad 5 q)), (2, .int t), (3, .ref (K.ad 4 0)), (4, .ref (K.ad 2 (32 * s + a))), (5, .int _)]) (lvs rfl (lvs rfl (lvs rfl (lvs rfl (lvs rfl (lvs rfl lvs0)))))) ?_
        refine j60 _ _ ?_ ?_ <;> (clear hX h hl j124 j104 j60; first | (simp_all [hupA, hupN, uA1, b01, up_rd]; done) | grind [hupA, hupN, uA1, b01, up_rd])
    · refine j_aload h d_Srv_hearUpdate_35 rfl ?_
      refine j_iconst (v := 1) h d_Srv_hearUpdate_37 (by decide) ?_
      refine j_putZ0 h d_Srv_hearUpdate_38 fw_Srv_58 rfl rfl (by assumption) (by first | exact Or.inl rfl | exact Or.inr rfl | assumption) ?_
      refine j_aload_n h d_Srv_hearUpdate_41 rfl ?_
      refine j_get1e (v := x 5) h d_Srv_hearUpdate_42 fl_Srv_125 rfl (by assumption) (hcm.1 5 (by decide)) ?_
      refine j_aload h d_Srv_hearUpdate_45 rfl ?_
      refine j_get0 h d_Srv_hearUpdate_47 fl_Srv_166 rfl (by assumption) ?_
      refine j_ic_ne (tgt := 57) h d_Srv_hearUpdate_50 (by decide) (fun c4 => ?_) (fun c4 => ?_)
      · refine j_iconst (v := 0) h d_Srv_hearUpdate_57 (by decide) ?_
        refine j_istore h d_Srv_hearUpdate_58 (Nat.lt_of_lt_of_eq (m := 8) (by decide) hN.symm) ?_
        refine j_lv (lv' := [(0, .ref (K.ad 1 s)), (1, .ref (K.ad 5 q)), (2, .int t), (3, .ref (K.ad 4 0)), (4, .ref (K.ad 2 (32 * s + a))), (5, .int _)]) (lvs rfl (lvs rfl (lvs rfl (lvs rfl (lvs rfl (lvs rfl lvs0)))))) ?_
        refine j60 _ _ ?_ ?_ <;> (clear hX h hl j124 j104 j60; first | (simp_all [hupA, hupN, uA1, b01, up_rd]; done) | grind [hupA, hupN, uA1, b01, up_rd])
      · refine j_iconst (v := 1) h d_Srv_hearUpdate_53 (by decide) ?_
        refine j_goto (tgt := 58) h d_Srv_hearUpdate_54 (by decide) ?_
        refine j_istore h d_Srv_hearUpdate_58 (Nat.lt_of_lt_of_eq (m := 8) (by decide) hN.symm) ?_
        refine j_lv (lv' := [(0, .ref (K.ad 1 s)), (1, .ref (K.ad 5 q)), (2, .int t), (3, .ref (K.ad 4 0)), (4, .ref (K.ad 2 (32 * s + a))), (5, .int _)]) (lvs rfl (lvs rfl (lvs rfl (lvs rfl (lvs rfl (lvs rfl lvs0)))))) ?_
        refine j60 _ _ ?_ ?_ <;> (clear hX h hl j124 j104 j60; first | (simp_all [hupA, hupN, uA1, b01, up_rd]; done) | grind [hupA, hupN, uA1, b01, up_rd])
  · exact j_vret hX d_Srv_hearUpdate_23 rfl (Nat.le_refl _) (Nat.le_refl _) ⟨rfl, rfl, rfl, _, by rw [hupA, if_neg (by assumption)], by rw [hupN, if_neg (by assumption)]; exact hnc⟩
