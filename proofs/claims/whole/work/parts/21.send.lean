/-! senders -/
theorem adB_k (B : MI) (f c : Nat) {col i : Nat} (h1 : col ≠ 70) (h2 : col ≠ 72) : adB B f c col i = B col i := by
  unfold adB
  split
  · exact up_c _ _ h1
  · exact up_c _ _ h2
/-- the message q is none of the ring -/
def offR (K : Kx) (P : MP) (q : Nat) : Prop := ∀ t j, t < 2 → P 5 0 = some (K.aad (4 + t)) → j < 300 → P (14 + t) j ≠ some (K.ad 5 q)
theorem offR_ne {K : Kx} {P : MP} {B : MI} {t f c q : Nat} {g : Nat → Nat → Nat} (h : offR K P q) (rg : RG K P B t g f c) : q ≠ adq g t f c := by
  obtain ⟨ht, hf, hc, b70, b72, p5, p6, hg, hgi⟩ := rg
  intro z
  have e : adq g t f c = g t ((adf f c + (adc c - 1)) % 300) := rfl
  have := (hg t ((adf f c + (adc c - 1)) % 300) ht (Nat.mod_lt _ (by decide))).1
  rw [← e, ← z] at this
  exact h t _ ht p5 (Nat.mod_lt _ (by decide)) this
def m_ans (s : Nat) (c num : Int32) (lease a e : Int32) : Msg := mk7 1 c (nI s) lease a num e
def updR (A : MI) (s : Nat) : Nat → Nat → List Msg → List Msg
  | 0, _, N => N
  | k + 1, i, N => updR A s k (i + 1) (netput (m_upd A s i) N)
def penR (A : MI) (s : Nat) : Nat → Nat → Int32 → List Msg → Int32 × List Msg
  | 0, _, g, N => (g, N)
  | k + 1, i, g, N => if A 17 (32 * s + i) = 0 then penR A s k (i + 1) g N else penR A s k (i + 1) (g + 1) (netput (m_upd A s i) N)
theorem d_Srv_sendHello_0 : decode b_Srv_sendHello 0 = .ok (.aload_n 1, 1) := by decide +kernel
theorem d_Srv_sendHello_1 : decode b_Srv_sendHello 1 = .ok (.iconst 2, 1) := by decide +kernel
theorem d_Srv_sendHello_2 : decode b_Srv_sendHello 2 = .ok (.aload_n 0, 1) := by decide +kernel
theorem d_Srv_sendHello_3 : decode b_Srv_sendHello 3 = .ok (.getfield 9, 3) := by decide +kernel
theorem d_Srv_sendHello_6 : decode b_Srv_sendHello 6 = .ok (.aload_n 0, 1) := by decide +kernel
theorem d_Srv_sendHello_7 : decode b_Srv_sendHello 7 = .ok (.getfield 15, 3) := by decide +kernel
theorem d_Srv_sendHello_10 : decode b_Srv_sendHello 10 = .ok (.invokevirtual 142, 3) := by decide +kernel
theorem d_Srv_sendHello_13 : decode b_Srv_sendHello 13 = .ok (.astore_n 2, 1) := by decide +kernel
theorem d_Srv_sendHello_14 : decode b_Srv_sendHello 14 = .ok (.aload_n 2, 1) := by decide +kernel
theorem d_Srv_sendHello_15 : decode b_Srv_sendHello 15 = .ok (.aload_n 0, 1) := by decide +kernel
theorem d_Srv_sendHello_16 : decode b_Srv_sendHello 16 = .ok (.getfield 36, 3) := by decide +kernel
theorem d_Srv_sendHello_19 : decode b_Srv_sendHello 19 = .ok (.putfield 125, 3) := by decide +kernel
theorem d_Srv_sendHello_22 : decode b_Srv_sendHello 22 = .ok (.return_, 1) := by decide +kernel
set_option maxRecDepth 100000 in
set_option maxHeartbeats 4000000 in
theorem c_Srv_sendHello (l : Launch) (K : Kx) (V : Vx) (A B C D : MI) (P : MP) (n : Nat) (cs : CS K V P n) (s : Nat) (hs : s < 2) (ld sk : Int32) (N T : List Msg) (U : Msg) (hnc : NC K P B ld sk N T U) : Ct l K md_Srv_sendHello (2, 47) 0 0 [.ref (K.ad 1 s), .ref (K.ad 4 0)] V (bk4 A B C D) P (NP K V C D P ld sk none A (netput (m_hello A s) N) T U) := by
  refine ct_of [(0, .ref (K.ad 1 s)), (1, .ref (K.ad 4 0))] (by decide) (Nat.le_of_ble_eq_true rfl) (ca_r (ca_r ca_n)) rfl ?_
  intro X hl hX
  have h : OkX X b_Srv_sendHello R_Srv K := hX.1
  have hN : X.nL = 3 := hX.2.1
  have hsv := cs_sv cs hs
  obtain ⟨kb, t, g, f, ft, nw⟩ := id hnc
  have rg := nw.1
  have hnv := cs_nv cs
  have hq0 : adq g t f N.length < 600 := (rg.2.2.2.2.2.2.2.1 t _ rg.1 (Nat.mod_lt _ (by decide))).2
  have hqv : V.1 5 (adq g t f N.length) := cs_mv cs (Nat.lt_succ_of_lt hq0)
  have hz91 := nw.2.2.2.2.2.2 _ (Nat.lt_succ_of_lt hq0)
  refine j_aload_n h d_Srv_sendHello_0 rfl ?_
  refine j_iconst (v := 2) h d_Srv_sendHello_1 (by decide) ?_
  refine j_aload_n h d_Srv_sendHello_2 rfl ?_
  refine j_get1e h d_Srv_sendHello_3 fl_Srv_9 rfl (by assumption) (kb s hs).1 ?_
  refine j_aload_n h d_Srv_sendHello_6 rfl ?_
  refine j_get1e h d_Srv_sendHello_7 fl_Srv_15 rfl (by assumption) (kb s hs).2.1 ?_
  refine j_callV h (c_Net_add _ _ _ _ _ _ _ _ _ cs _ _ _ _ rg _ _ _) d_Srv_sendHello_10 ml_Srv_142 mv_Net_add (by assumption) ⟨rfl, rfl⟩ rfl rfl (Nat.le_of_ble_eq_true rfl) (hR_of hX (by decide) (by decide)) (hf_of hX (by decide) (by decide)) ?_
  rintro _ _ _ _ ⟨rfl, rfl, rfl, rfl⟩
  refine j_astore_n h d_Srv_sendHello_13 (Nat.lt_of_lt_of_eq (m := 3) (by decide) hN.symm) ?_
  refine j_aload_n h d_Srv_sendHello_14 rfl ?_
  refine j_aload_n h d_Srv_sendHello_15 rfl ?_
  refine j_get0 h d_Srv_sendHello_16 fl_Srv_36 rfl (by assumption) ?_
  refine j_put1 h d_Srv_sendHello_19 fw_Srv_125 rfl rfl (by assumption) ?_
  exact j_vret hX d_Srv_sendHello_22 rfl (Nat.le_refl _) (Nat.le_refl _) ⟨rfl, rfl, rfl, _, rfl, NC_add kb nw (by repeat (first | exact oq_b _ _ _ _ _ | refine oq_u (by decide) ?_)) (by
      refine ⟨fun w hw => ?_, fun h3 => ?_, fun h4 => ?_⟩
      · rcases (show w = 0 ∨ w = 1 ∨ w = 2 ∨ w = 3 ∨ w = 4 ∨ w = 5 ∨ w = 6 by omega) with rfl | rfl | rfl | rfl | rfl | rfl | rfl <;> simp [up_rd, mB_rd, m_hello, mk7]
      · exact absurd h3 (show ¬ (2 : Int32) = 3 by decide)
      · exact absurd h4 (show ¬ (2 : Int32) = 4 by decide)) (by simpa [up_rd, mB_rd, adB_k] using hz91)⟩
theorem d_Srv_sendUpdate_0 : decode b_Srv_sendUpdate 0 = .ok (.aload_n 0, 1) := by decide +kernel
theorem d_Srv_sendUpdate_1 : decode b_Srv_sendUpdate 1 = .ok (.getfield 26, 3) := by decide +kernel
theorem d_Srv_sendUpdate_4 : decode b_Srv_sendUpdate 4 = .ok (.iload_n 1, 1) := by decide +kernel
theorem d_Srv_sendUpdate_5 : decode b_Srv_sendUpdate 5 = .ok (.aaload, 1) := by decide +kernel
theorem d_Srv_sendUpdate_6 : decode b_Srv_sendUpdate 6 = .ok (.astore_n 3, 1) := by decide +kernel
theorem d_Srv_sendUpdate_7 : decode b_Srv_sendUpdate 7 = .ok (.aload_n 2, 1) := by decide +kernel
theorem d_Srv_sendUpdate_8 : decode b_Srv_sendUpdate 8 = .ok (.iconst 3, 1) := by decide +kernel
theorem d_Srv_sendUpdate_9 : decode b_Srv_sendUpdate 9 = .ok (.aload_n 0, 1) := by decide +kernel
theorem d_Srv_sendUpdate_10 : decode b_Srv_sendUpdate 10 = .ok (.getfield 9, 3) := by decide +kernel
theorem d_Srv_sendUpdate_13 : decode b_Srv_sendUpdate 13 = .ok (.aload_n 0, 1) := by decide +kernel
theorem d_Srv_sendUpdate_14 : decode b_Srv_sendUpdate 14 = .ok (.getfield 15, 3) := by decide +kernel
theorem d_Srv_sendUpdate_17 : decode b_Srv_sendUpdate 17 = .ok (.invokevirtual 142, 3) := by decide +kernel
theorem d_Srv_sendUpdate_20 : decode b_Srv_sendUpdate 20 = .ok (.astore 4, 2) := by decide +kernel
theorem d_Srv_sendUpdate_22 : decode b_Srv_sendUpdate 22 = .ok (.aload 4, 2) := by decide +kernel
theorem d_Srv_sendUpdate_24 : decode b_Srv_sendUpdate 24 = .ok (.iload_n 1, 1) := by decide +kernel
theorem d_Srv_sendUpdate_25 : decode b_Srv_sendUpdate 25 = .ok (.putfield 81, 3) := by decide +kernel
theorem d_Srv_sendUpdate_28 : decode b_Srv_sendUpdate 28 = .ok (.aload 4, 2) := by decide +kernel
theorem d_Srv_sendUpdate_30 : decode b_Srv_sendUpdate 30 = .ok (.aload_n 0, 1) := by decide +kernel
theorem d_Srv_sendUpdate_31 : decode b_Srv_sendUpdate 31 = .ok (.getfield 36, 3) := by decide +kernel
theorem d_Srv_sendUpdate_34 : decode b_Srv_sendUpdate 34 = .ok (.putfield 161, 3) := by decide +kernel
theorem d_Srv_sendUpdate_37 : decode b_Srv_sendUpdate 37 = .ok (.aload 4, 2) := by decide +kernel
theorem d_Srv_sendUpdate_39 : decode b_Srv_sendUpdate 39 = .ok (.aload_n 0, 1) := by decide +kernel
theorem d_Srv_sendUpdate_40 : decode b_Srv_sendUpdate 40 = .ok (.getfield 42, 3) := by decide +kernel
theorem d_Srv_sendUpdate_43 : decode b_Srv_sendUpdate 43 = .ok (.putfield 165, 3) := by decide +kernel
theorem d_Srv_sendUpdate_46 : decode b_Srv_sendUpdate 46 = .ok (.aload 4, 2) := by decide +kernel
theorem d_Srv_sendUpdate_48 : decode b_Srv_sendUpdate 48 = .ok (.aload_n 3, 1) := by decide +kernel
theorem d_Srv_sendUpdate_49 : decode b_Srv_sendUpdate 49 = .ok (.getfield 126, 3) := by decide +kernel
theorem d_Srv_sendUpdate_52 : decode b_Srv_sendUpdate 52 = .ok (.putfield 125, 3) := by decide +kernel
theorem d_Srv_sendUpdate_55 : decode b_Srv_sendUpdate 55 = .ok (.aload 4, 2) := by decide +kernel
theorem d_Srv_sendUpdate_57 : decode b_Srv_sendUpdate 57 = .ok (.aload_n 3, 1) := by decide +kernel
theorem d_Srv_sendUpdate_58 : decode b_Srv_sendUpdate 58 = .ok (.getfield 71, 3) := by decide +kernel
theorem d_Srv_sendUpdate_61 : decode b_Srv_sendUpdate 61 = .ok (.putfield 74, 3) := by decide +kernel
theorem d_Srv_sendUpdate_64 : decode b_Srv_sendUpdate 64 = .ok (.aload 4, 2) := by decide +kernel
theorem d_Srv_sendUpdate_66 : decode b_Srv_sendUpdate 66 = .ok (.aload_n 3, 1) := by decide +kernel
theorem d_Srv_sendUpdate_67 : decode b_Srv_sendUpdate 67 = .ok (.getfield 212, 3) := by decide +kernel
theorem d_Srv_sendUpdate_70 : decode b_Srv_sendUpdate 70 = .ok (.putfield 215, 3) := by decide +kernel
theorem d_Srv_sendUpdate_73 : decode b_Srv_sendUpdate 73 = .ok (.aload 4, 2) := by decide +kernel
theorem d_Srv_sendUpdate_75 : decode b_Srv_sendUpdate 75 = .ok (.aload_n 3, 1) := by decide +kernel
theorem d_Srv_sendUpdate_76 : decode b_Srv_sendUpdate 76 = .ok (.getfield 107, 3) := by decide +kernel
theorem d_Srv_sendUpdate_79 : decode b_Srv_sendUpdate 79 = .ok (.putfield 114, 3) := by decide +kernel
theorem d_Srv_sendUpdate_82 : decode b_Srv_sendUpdate 82 = .ok (.aload 4, 2) := by decide +kernel
theorem d_Srv_sendUpdate_84 : decode b_Srv_sendUpdate 84 = .ok (.aload_n 3, 1) := by decide +kernel
theorem d_Srv_sendUpdate_85 : decode b_Srv_sendUpdate 85 = .ok (.getfield 133, 3) := by decide +kernel
theorem d_Srv_sendUpdate_88 : decode b_Srv_sendUpdate 88 = .ok (.putfield 216, 3) := by decide +kernel
theorem d_Srv_sendUpdate_91 : decode b_Srv_sendUpdate 91 = .ok (.aload 4, 2) := by decide +kernel
theorem d_Srv_sendUpdate_93 : decode b_Srv_sendUpdate 93 = .ok (.aload_n 3, 1) := by decide +kernel
theorem d_Srv_sendUpdate_94 : decode b_Srv_sendUpdate 94 = .ok (.getfield 148, 3) := by decide +kernel
theorem d_Srv_sendUpdate_97 : decode b_Srv_sendUpdate 97 = .ok (.putfield 217, 3) := by decide +kernel
theorem d_Srv_sendUpdate_100 : decode b_Srv_sendUpdate 100 = .ok (.aload 4, 2) := by decide +kernel
theorem d_Srv_sendUpdate_102 : decode b_Srv_sendUpdate 102 = .ok (.aload_n 3, 1) := by decide +kernel
theorem d_Srv_sendUpdate_103 : decode b_Srv_sendUpdate 103 = .ok (.getfield 166, 3) := by decide +kernel
theorem d_Srv_sendUpdate_106 : decode b_Srv_sendUpdate 106 = .ok (.putfield 196, 3) := by decide +kernel
theorem d_Srv_sendUpdate_109 : decode b_Srv_sendUpdate 109 = .ok (.aload 4, 2) := by decide +kernel
theorem d_Srv_sendUpdate_111 : decode b_Srv_sendUpdate 111 = .ok (.aload_n 3, 1) := by decide +kernel
theorem d_Srv_sendUpdate_112 : decode b_Srv_sendUpdate 112 = .ok (.getfield 162, 3) := by decide +kernel
theorem d_Srv_sendUpdate_115 : decode b_Srv_sendUpdate 115 = .ok (.putfield 195, 3) := by decide +kernel
theorem d_Srv_sendUpdate_118 : decode b_Srv_sendUpdate 118 = .ok (.return_, 1) := by decide +kernel
set_option maxRecDepth 100000 in
set_option maxHeartbeats 4000000 in
theorem c_Srv_sendUpdate (l : Launch) (K : Kx) (V : Vx) (A B C D : MI) (P : MP) (n : Nat) (cs : CS K V P n) (s : Nat) (hs : s < 2) (ld sk : Int32) (N T : List Msg) (U : Msg) (hnc : NC K P B ld sk N T U) (a : Nat) (ha : a < n) (hz : A 14 (32 * s + a) = 0 ∨ A 14 (32 * s + a) = 1) : Ct l K md_Srv_sendUpdate (2, 47) 0 0 [.ref (K.ad 1 s), .int (nI a), .ref (K.ad 4 0)] V (bk4 A B C D) P (NP K V C D P ld sk none A (netput (m_upd A s a) N) T U) := by
  refine ct_of [(0, .ref (K.ad 1 s)), (1, .int (nI a)), (2, .ref (K.ad 4 0))] (by decide) (Nat.le_of_ble_eq_true rfl) (ca_r (ca_i (ca_r ca_n))) rfl ?_
  intro X hl hX
  have h : OkX X b_Srv_sendUpdate R_Srv K := hX.1
  have hN : X.nL = 5 := hX.2.1
  have hsv := cs_sv cs hs
  obtain ⟨kb, t, g, f, ft, nw⟩ := id hnc
  have rg := nw.1
  have hnv := cs_nv cs
  have hq0 : adq g t f N.length < 600 := (rg.2.2.2.2.2.2.2.1 t _ rg.1 (Nat.mod_lt _ (by decide))).2
  have hqv : V.1 5 (adq g t f N.length) := cs_mv cs (Nat.lt_succ_of_lt hq0)
  have hz91 := nw.2.2.2.2.2.2 _ (Nat.lt_succ_of_lt hq0)
  have hr := cs_rv cs hs ha
  refine j_aload_n h d_Srv_sendUpdate_0 rfl ?_
  refine j_getR h d_Srv_sendUpdate_1 fl_Srv_26 rfl (by assumption) (cs_rp cs hs) ?_
  refine j_iload_n h d_Srv_sendUpdate_4 rfl ?_
  refine j_recs h cs hs ha d_Srv_sendUpdate_5 ?_
  refine j_astore_n h d_Srv_sendUpdate_6 (Nat.lt_of_lt_of_eq (m := 5) (by decide) hN.symm) ?_
  refine j_aload_n h d_Srv_sendUpdate_7 rfl ?_
  refine j_iconst (v := 3) h d_Srv_sendUpdate_8 (by decide) ?_
  refine j_aload_n h d_Srv_sendUpdate_9 rfl ?_
  refine j_get1e h d_Srv_sendUpdate_10 fl_Srv_9 rfl (by assumption) (kb s hs).1 ?_
  refine j_aload_n h d_Srv_sendUpdate_13 rfl ?_
  refine j_get1e h d_Srv_sendUpdate_14 fl_Srv_15 rfl (by assumption) (kb s hs).2.1 ?_
  refine j_callV h (c_Net_add _ _ _ _ _ _ _ _ _ cs _ _ _ _ rg _ _ _) d_Srv_sendUpdate_17 ml_Srv_142 mv_Net_add (by assumption) ⟨rfl, rfl⟩ rfl rfl (Nat.le_of_ble_eq_true rfl) (hR_of hX (by decide) (by decide)) (hf_of hX (by decide) (by decide)) ?_
  rintro _ _ _ _ ⟨rfl, rfl, rfl, rfl⟩
  refine j_astore h d_Srv_sendUpdate_20 (Nat.lt_of_lt_of_eq (m := 5) (by decide) hN.symm) ?_
  refine j_aload h d_Srv_sendUpdate_22 rfl ?_
  refine j_iload_n h d_Srv_sendUpdate_24 rfl ?_
  refine j_put1 h d_Srv_sendUpdate_25 fw_Srv_81 rfl rfl (by assumption) ?_
  refine j_aload h d_Srv_sendUpdate_28 rfl ?_
  refine j_aload_n h d_Srv_sendUpdate_30 rfl ?_
  refine j_get0 h d_Srv_sendUpdate_31 fl_Srv_36 rfl (by assumption) ?_
  refine j_put1 h d_Srv_sendUpdate_34 fw_Srv_161 rfl rfl (by assumption) ?_
  refine j_aload h d_Srv_sendUpdate_37 rfl ?_
  refine j_aload_n h d_Srv_sendUpdate_39 rfl ?_
  refine j_get0 h d_Srv_sendUpdate_40 fl_Srv_42 rfl (by assumption) ?_
  refine j_put1 h d_Srv_sendUpdate_43 fw_Srv_165 rfl rfl (by assumption) ?_
  refine j_aload h d_Srv_sendUpdate_46 rfl ?_
  refine j_aload_n h d_Srv_sendUpdate_48 rfl ?_
  refine j_get0 h d_Srv_sendUpdate_49 fl_Srv_126 rfl (by assumption) ?_
  refine j_put1 h d_Srv_sendUpdate_52 fw_Srv_125 rfl rfl (by assumption) ?_
  refine j_aload h d_Srv_sendUpdate_55 rfl ?_
  refine j_aload_n h d_Srv_sendUpdate_57 rfl ?_
  refine j_get0 h d_Srv_sendUpdate_58 fl_Srv_71 rfl (by assumption) ?_
  refine j_put1 h d_Srv_sendUpdate_61 fw_Srv_74 rfl rfl (by assumption) ?_
  refine j_aload h d_Srv_sendUpdate_64 rfl ?_
  refine j_aload_n h d_Srv_sendUpdate_66 rfl ?_
  refine j_get0 h d_Srv_sendUpdate_67 fl_Srv_212 rfl (by assumption) ?_
  refine j_put1 h d_Srv_sendUpdate_70 fw_Srv_215 rfl rfl (by assumption) ?_
  refine j_aload h d_Srv_sendUpdate_73 rfl ?_
  refine j_aload_n h d_Srv_sendUpdate_75 rfl ?_
  refine j_get0 h d_Srv_sendUpdate_76 fl_Srv_107 rfl (by assumption) ?_
  refine j_put1 h d_Srv_sendUpdate_79 fw_Srv_114 rfl rfl (by assumption) ?_
  refine j_aload h d_Srv_sendUpdate_82 rfl ?_
  refine j_aload_n h d_Srv_sendUpdate_84 rfl ?_
  refine j_get0 h d_Srv_sendUpdate_85 fl_Srv_133 rfl (by assumption) ?_
  refine j_put1 h d_Srv_sendUpdate_88 fw_Srv_216 rfl rfl (by assumption) ?_
  refine j_aload h d_Srv_sendUpdate_91 rfl ?_
  refine j_aload_n h d_Srv_sendUpdate_93 rfl ?_
  refine j_get0 h d_Srv_sendUpdate_94 fl_Srv_148 rfl (by assumption) ?_
  refine j_putZ1 h d_Srv_sendUpdate_97 fw_Srv_217 rfl rfl (by assumption) (by first | exact Or.inl rfl | exact Or.inr rfl | assumption) ?_
  refine j_aload h d_Srv_sendUpdate_100 rfl ?_
  refine j_aload_n h d_Srv_sendUpdate_102 rfl ?_
  refine j_get0 h d_Srv_sendUpdate_103 fl_Srv_166 rfl (by assumption) ?_
  refine j_put1 h d_Srv_sendUpdate_106 fw_Srv_196 rfl rfl (by assumption) ?_
  refine j_aload h d_Srv_sendUpdate_109 rfl ?_
  refine j_aload_n h d_Srv_sendUpdate_111 rfl ?_
  refine j_get0 h d_Srv_sendUpdate_112 fl_Srv_162 rfl (by assumption) ?_
  refine j_put1 h d_Srv_sendUpdate_115 fw_Srv_195 rfl rfl (by assumption) ?_
  exact j_vret hX d_Srv_sendUpdate_118 rfl (Nat.le_refl _) (Nat.le_refl _) ⟨rfl, rfl, rfl, _, rfl, NC_add kb nw (by repeat (first | exact oq_b _ _ _ _ _ | refine oq_u (by decide) ?_)) (by
      refine ⟨fun w hw => ?_, fun h3 => ?_, fun h4 => ?_⟩
      · rcases (show w = 0 ∨ w = 1 ∨ w = 2 ∨ w = 3 ∨ w = 4 ∨ w = 5 ∨ w = 6 by omega) with rfl | rfl | rfl | rfl | rfl | rfl | rfl <;> simp [up_rd, mB_rd, m_upd]
      · intro w hw
        rcases (show w = 0 ∨ w = 1 ∨ w = 2 ∨ w = 3 ∨ w = 4 ∨ w = 5 ∨ w = 6 ∨ w = 7 ∨ w = 8 ∨ w = 9 ∨ w = 10 ∨ w = 11 ∨ w = 12 ∨ w = 13 by omega) with rfl | rfl | rfl | rfl | rfl | rfl | rfl | rfl | rfl | rfl | rfl | rfl | rfl | rfl <;> simp [up_rd, mB_rd, m_upd]
      · exact absurd h4 (show ¬ (3 : Int32) = 4 by decide)) (by simpa [up_rd, mB_rd, adB_k] using hz)⟩
theorem d_Srv_acknowledge_0 : decode b_Srv_acknowledge 0 = .ok (.aload_n 3, 1) := by decide +kernel
theorem d_Srv_acknowledge_1 : decode b_Srv_acknowledge 1 = .ok (.iconst 4, 1) := by decide +kernel
theorem d_Srv_acknowledge_2 : decode b_Srv_acknowledge 2 = .ok (.aload_n 0, 1) := by decide +kernel
theorem d_Srv_acknowledge_3 : decode b_Srv_acknowledge 3 = .ok (.getfield 9, 3) := by decide +kernel
theorem d_Srv_acknowledge_6 : decode b_Srv_acknowledge 6 = .ok (.aload_n 0, 1) := by decide +kernel
theorem d_Srv_acknowledge_7 : decode b_Srv_acknowledge 7 = .ok (.getfield 15, 3) := by decide +kernel
theorem d_Srv_acknowledge_10 : decode b_Srv_acknowledge 10 = .ok (.invokevirtual 142, 3) := by decide +kernel
theorem d_Srv_acknowledge_13 : decode b_Srv_acknowledge 13 = .ok (.astore 4, 2) := by decide +kernel
theorem d_Srv_acknowledge_15 : decode b_Srv_acknowledge 15 = .ok (.aload 4, 2) := by decide +kernel
theorem d_Srv_acknowledge_17 : decode b_Srv_acknowledge 17 = .ok (.aload_n 1, 1) := by decide +kernel
theorem d_Srv_acknowledge_18 : decode b_Srv_acknowledge 18 = .ok (.getfield 81, 3) := by decide +kernel
theorem d_Srv_acknowledge_21 : decode b_Srv_acknowledge 21 = .ok (.putfield 81, 3) := by decide +kernel
theorem d_Srv_acknowledge_24 : decode b_Srv_acknowledge 24 = .ok (.aload 4, 2) := by decide +kernel
theorem d_Srv_acknowledge_26 : decode b_Srv_acknowledge 26 = .ok (.aload_n 1, 1) := by decide +kernel
theorem d_Srv_acknowledge_27 : decode b_Srv_acknowledge 27 = .ok (.getfield 125, 3) := by decide +kernel
theorem d_Srv_acknowledge_30 : decode b_Srv_acknowledge 30 = .ok (.putfield 125, 3) := by decide +kernel
theorem d_Srv_acknowledge_33 : decode b_Srv_acknowledge 33 = .ok (.aload 4, 2) := by decide +kernel
theorem d_Srv_acknowledge_35 : decode b_Srv_acknowledge 35 = .ok (.aload_n 1, 1) := by decide +kernel
theorem d_Srv_acknowledge_36 : decode b_Srv_acknowledge 36 = .ok (.getfield 74, 3) := by decide +kernel
theorem d_Srv_acknowledge_39 : decode b_Srv_acknowledge 39 = .ok (.iconst 2, 1) := by decide +kernel
theorem d_Srv_acknowledge_40 : decode b_Srv_acknowledge 40 = .ok (.if_icmp .ne 10, 3) := by decide +kernel
theorem d_Srv_acknowledge_43 : decode b_Srv_acknowledge 43 = .ok (.aload_n 1, 1) := by decide +kernel
theorem d_Srv_acknowledge_44 : decode b_Srv_acknowledge 44 = .ok (.getfield 114, 3) := by decide +kernel
theorem d_Srv_acknowledge_47 : decode b_Srv_acknowledge 47 = .ok (.goto 4, 3) := by decide +kernel
theorem d_Srv_acknowledge_50 : decode b_Srv_acknowledge 50 = .ok (.iconst 0, 1) := by decide +kernel
theorem d_Srv_acknowledge_51 : decode b_Srv_acknowledge 51 = .ok (.putfield 114, 3) := by decide +kernel
theorem d_Srv_acknowledge_54 : decode b_Srv_acknowledge 54 = .ok (.aload 4, 2) := by decide +kernel
theorem d_Srv_acknowledge_56 : decode b_Srv_acknowledge 56 = .ok (.aload_n 0, 1) := by decide +kernel
theorem d_Srv_acknowledge_57 : decode b_Srv_acknowledge 57 = .ok (.getfield 36, 3) := by decide +kernel
theorem d_Srv_acknowledge_60 : decode b_Srv_acknowledge 60 = .ok (.putfield 161, 3) := by decide +kernel
theorem d_Srv_acknowledge_63 : decode b_Srv_acknowledge 63 = .ok (.aload 4, 2) := by decide +kernel
theorem d_Srv_acknowledge_65 : decode b_Srv_acknowledge 65 = .ok (.aload_n 2, 1) := by decide +kernel
theorem d_Srv_acknowledge_66 : decode b_Srv_acknowledge 66 = .ok (.getfield 126, 3) := by decide +kernel
theorem d_Srv_acknowledge_69 : decode b_Srv_acknowledge 69 = .ok (.putfield 203, 3) := by decide +kernel
theorem d_Srv_acknowledge_72 : decode b_Srv_acknowledge 72 = .ok (.return_, 1) := by decide +kernel
set_option maxRecDepth 100000 in
set_option maxHeartbeats 4000000 in
theorem c_Srv_acknowledge (l : Launch) (K : Kx) (V : Vx) (A B C D : MI) (P : MP) (n : Nat) (cs : CS K V P n) (s : Nat) (hs : s < 2) (ld sk : Int32) (N T : List Msg) (U : Msg) (hnc : NC K P B ld sk N T U) (q : Nat) (hq : V.1 5 q) (x : Msg) (hcm : CM B q x) (hoff : offR K P q) (a : Nat) (ha : a < n) (hxa : x 4 = nI a) : Ct l K md_Srv_acknowledge (2, 47) 0 0 [.ref (K.ad 1 s), .ref (K.ad 5 q), .ref (K.ad 2 (32 * s + a)), .ref (K.ad 4 0)] V (bk4 A B C D) P (NP K V C D P ld sk none A (netput (m_ack A s a (x 5) (if x 3 = 2 then x 6 else 0)) N) T U) := by
  refine ct_of [(0, .ref (K.ad 1 s)), (1, .ref (K.ad 5 q)), (2, .ref (K.ad 2 (32 * s + a))), (3, .ref (K.ad 4 0))] (by decide) (Nat.le_of_ble_eq_true rfl) (ca_r (ca_r (ca_r (ca_r ca_n)))) rfl ?_
  intro X hl hX
  have h : OkX X b_Srv_acknowledge R_Srv K := hX.1
  have hN : X.nL = 5 := hX.2.1
  have hsv := cs_sv cs hs
  obtain ⟨kb, t, g, f, ft, nw⟩ := id hnc
  have rg := nw.1
  have hnv := cs_nv cs
  have hq0 : adq g t f N.length < 600 := (rg.2.2.2.2.2.2.2.1 t _ rg.1 (Nat.mod_lt _ (by decide))).2
  have hqv : V.1 5 (adq g t f N.length) := cs_mv cs (Nat.lt_succ_of_lt hq0)
  have hz91 := nw.2.2.2.2.2.2 _ (Nat.lt_succ_of_lt hq0)
  have hr := cs_rv cs hs ha
  have hne := offR_ne hoff rg
  refine j_aload_n h d_Srv_acknowledge_0 rfl ?_
  refine j_iconst (v := 4) h d_Srv_acknowledge_1 (by decide) ?_
  refine j_aload_n h d_Srv_acknowledge_2 rfl ?_
  refine j_get1e h d_Srv_acknowledge_3 fl_Srv_9 rfl (by assumption) (kb s hs).1 ?_
  refine j_aload_n h d_Srv_acknowledge_6 rfl ?_
  refine j_get1e h d_Srv_acknowledge_7 fl_Srv_15 rfl (by assumption) (kb s hs).2.1 ?_
  refine j_callV h (c_Net_add _ _ _ _ _ _ _ _ _ cs _ _ _ _ rg _ _ _) d_Srv_acknowledge_10 ml_Srv_142 mv_Net_add (by assumption) ⟨rfl, rfl⟩ rfl rfl (Nat.le_of_ble_eq_true rfl) (hR_of hX (by decide) (by decide)) (hf_of hX (by decide) (by decide)) ?_
  rintro _ _ _ _ ⟨rfl, rfl, rfl, rfl⟩
  refine j_astore h d_Srv_acknowledge_13 (Nat.lt_of_lt_of_eq (m := 5) (by decide) hN.symm) ?_
  refine j_aload h d_Srv_acknowledge_15 rfl ?_
  refine j_aload_n h d_Srv_acknowledge_17 rfl ?_
  refine j_get1e (v := x 4) h d_Srv_acknowledge_18 fl_Srv_81 rfl (by assumption) (by first | exact hcm.1 4 (by decide) | (simp [up_rd, mB_rd, hne, adB_k]; exact hcm.1 4 (by decide))) ?_
  refine j_put1 h d_Srv_acknowledge_21 fw_Srv_81 rfl rfl (by assumption) ?_
  refine j_aload h d_Srv_acknowledge_24 rfl ?_
  refine j_aload_n h d_Srv_acknowledge_26 rfl ?_
  refine j_get1e (v := x 5) h d_Srv_acknowledge_27 fl_Srv_125 rfl (by assumption) (by first | exact hcm.1 5 (by decide) | (simp [up_rd, mB_rd, hne, adB_k]; exact hcm.1 5 (by decide))) ?_
  refine j_put1 h d_Srv_acknowledge_30 fw_Srv_125 rfl rfl (by assumption) ?_
  refine j_aload h d_Srv_acknowledge_33 rfl ?_
  refine j_aload_n h d_Srv_acknowledge_35 rfl ?_
  refine j_get1e (v := x 3) h d_Srv_acknowledge_36 fl_Srv_74 rfl (by assumption) (by first | exact hcm.1 3 (by decide) | (simp [up_rd, mB_rd, hne, adB_k]; exact hcm.1 3 (by decide))) ?_
  refine j_iconst (v := 2) h d_Srv_acknowledge_39 (by decide) ?_
  refine j_ic_ne (tgt := 50) h d_Srv_acknowledge_40 (by decide) (fun c1 => ?_) (fun c1 => ?_)
  · refine j_iconst (v := 0) h d_Srv_acknowledge_50 (by decide) ?_
    refine j_put1 h d_Srv_acknowledge_51 fw_Srv_114 rfl rfl (by assumption) ?_
    refine j_aload h d_Srv_acknowledge_54 rfl ?_
    refine j_aload_n h d_Srv_acknowledge_56 rfl ?_
    refine j_get0 h d_Srv_acknowledge_57 fl_Srv_36 rfl (by assumption) ?_
    refine j_put1 h d_Srv_acknowledge_60 fw_Srv_161 rfl rfl (by assumption) ?_
    refine j_aload h d_Srv_acknowledge_63 rfl ?_
    refine j_aload_n h d_Srv_acknowledge_65 rfl ?_
    refine j_get0 h d_Srv_acknowledge_66 fl_Srv_126 rfl (by assumption) ?_
    refine j_put1 h d_Srv_acknowledge_69 fw_Srv_203 rfl rfl (by assumption) ?_
    exact j_vret hX d_Srv_acknowledge_72 rfl (Nat.le_refl _) (Nat.le_refl _) ⟨rfl, rfl, rfl, _, rfl, NC_add kb nw (by repeat (first | exact oq_b _ _ _ _ _ | refine oq_u (by decide) ?_)) (by
      refine ⟨fun w hw => ?_, fun h3 => ?_, fun h4 => ?_⟩
      · rcases (show w = 0 ∨ w = 1 ∨ w = 2 ∨ w = 3 ∨ w = 4 ∨ w = 5 ∨ w = 6 by omega) with rfl | rfl | rfl | rfl | rfl | rfl | rfl <;> simp [up_rd, mB_rd, m_ack, hxa, *]
      · exact absurd h3 (show ¬ (4 : Int32) = 3 by decide)
      · exact ⟨by simp [up_rd, mB_rd, m_ack, hxa, *], by simp [up_rd, mB_rd, m_ack, hxa, *]⟩) (by simpa [up_rd, mB_rd, adB_k] using hz91)⟩
  · refine j_aload_n h d_Srv_acknowledge_43 rfl ?_
    refine j_get1e (v := x 6) h d_Srv_acknowledge_44 fl_Srv_114 rfl (by assumption) (by first | exact hcm.1 6 (by decide) | (simp [up_rd, mB_rd, hne, adB_k]; exact hcm.1 6 (by decide))) ?_
    refine j_goto (tgt := 51) h d_Srv_acknowledge_47 (by decide) ?_
    refine j_put1 h d_Srv_acknowledge_51 fw_Srv_114 rfl rfl (by assumption) ?_
    refine j_aload h d_Srv_acknowledge_54 rfl ?_
    refine j_aload_n h d_Srv_acknowledge_56 rfl ?_
    refine j_get0 h d_Srv_acknowledge_57 fl_Srv_36 rfl (by assumption) ?_
    refine j_put1 h d_Srv_acknowledge_60 fw_Srv_161 rfl rfl (by assumption) ?_
    refine j_aload h d_Srv_acknowledge_63 rfl ?_
    refine j_aload_n h d_Srv_acknowledge_65 rfl ?_
    refine j_get0 h d_Srv_acknowledge_66 fl_Srv_126 rfl (by assumption) ?_
    refine j_put1 h d_Srv_acknowledge_69 fw_Srv_203 rfl rfl (by assumption) ?_
    exact j_vret hX d_Srv_acknowledge_72 rfl (Nat.le_refl _) (Nat.le_refl _) ⟨rfl, rfl, rfl, _, rfl, NC_add kb nw (by repeat (first | exact oq_b _ _ _ _ _ | refine oq_u (by decide) ?_)) (by
      refine ⟨fun w hw => ?_, fun h3 => ?_, fun h4 => ?_⟩
      · rcases (show w = 0 ∨ w = 1 ∨ w = 2 ∨ w = 3 ∨ w = 4 ∨ w = 5 ∨ w = 6 by omega) with rfl | rfl | rfl | rfl | rfl | rfl | rfl <;> simp [up_rd, mB_rd, m_ack, hxa, *]
      · exact absurd h3 (show ¬ (4 : Int32) = 3 by decide)
      · exact ⟨by simp [up_rd, mB_rd, m_ack, hxa, *], by simp [up_rd, mB_rd, m_ack, hxa, *]⟩) (by simpa [up_rd, mB_rd, adB_k] using hz91)⟩
theorem d_Srv_answer_0 : decode b_Srv_answer 0 = .ok (.aload_n 3, 1) := by decide +kernel
theorem d_Srv_answer_1 : decode b_Srv_answer 1 = .ok (.iconst 1, 1) := by decide +kernel
theorem d_Srv_answer_2 : decode b_Srv_answer 2 = .ok (.aload_n 0, 1) := by decide +kernel
theorem d_Srv_answer_3 : decode b_Srv_answer 3 = .ok (.getfield 9, 3) := by decide +kernel
theorem d_Srv_answer_6 : decode b_Srv_answer 6 = .ok (.aload_n 1, 1) := by decide +kernel
theorem d_Srv_answer_7 : decode b_Srv_answer 7 = .ok (.getfield 84, 3) := by decide +kernel
theorem d_Srv_answer_10 : decode b_Srv_answer 10 = .ok (.invokevirtual 142, 3) := by decide +kernel
theorem d_Srv_answer_13 : decode b_Srv_answer 13 = .ok (.astore 4, 2) := by decide +kernel
theorem d_Srv_answer_15 : decode b_Srv_answer 15 = .ok (.aload 4, 2) := by decide +kernel
theorem d_Srv_answer_17 : decode b_Srv_answer 17 = .ok (.aload_n 1, 1) := by decide +kernel
theorem d_Srv_answer_18 : decode b_Srv_answer 18 = .ok (.getfield 125, 3) := by decide +kernel
theorem d_Srv_answer_21 : decode b_Srv_answer 21 = .ok (.putfield 125, 3) := by decide +kernel
theorem d_Srv_answer_24 : decode b_Srv_answer 24 = .ok (.iload_n 2, 1) := by decide +kernel
theorem d_Srv_answer_25 : decode b_Srv_answer 25 = .ok (.iconst (-1), 1) := by decide +kernel
theorem d_Srv_answer_26 : decode b_Srv_answer 26 = .ok (.if_icmp .eq 29, 3) := by decide +kernel
theorem d_Srv_answer_29 : decode b_Srv_answer 29 = .ok (.aload 4, 2) := by decide +kernel
theorem d_Srv_answer_31 : decode b_Srv_answer 31 = .ok (.iconst 1, 1) := by decide +kernel
theorem d_Srv_answer_32 : decode b_Srv_answer 32 = .ok (.putfield 74, 3) := by decide +kernel
theorem d_Srv_answer_35 : decode b_Srv_answer 35 = .ok (.aload 4, 2) := by decide +kernel
theorem d_Srv_answer_37 : decode b_Srv_answer 37 = .ok (.iload_n 2, 1) := by decide +kernel
theorem d_Srv_answer_38 : decode b_Srv_answer 38 = .ok (.putfield 81, 3) := by decide +kernel
theorem d_Srv_answer_41 : decode b_Srv_answer 41 = .ok (.aload 4, 2) := by decide +kernel
theorem d_Srv_answer_43 : decode b_Srv_answer 43 = .ok (.aload_n 0, 1) := by decide +kernel
theorem d_Srv_answer_44 : decode b_Srv_answer 44 = .ok (.getfield 26, 3) := by decide +kernel
theorem d_Srv_answer_47 : decode b_Srv_answer 47 = .ok (.iload_n 2, 1) := by decide +kernel
theorem d_Srv_answer_48 : decode b_Srv_answer 48 = .ok (.aaload, 1) := by decide +kernel
theorem d_Srv_answer_49 : decode b_Srv_answer 49 = .ok (.getfield 107, 3) := by decide +kernel
theorem d_Srv_answer_52 : decode b_Srv_answer 52 = .ok (.putfield 114, 3) := by decide +kernel
theorem d_Srv_answer_55 : decode b_Srv_answer 55 = .ok (.return_, 1) := by decide +kernel
set_option maxRecDepth 100000 in
set_option maxHeartbeats 4000000 in
theorem c_Srv_answer_no (l : Launch) (K : Kx) (V : Vx) (A B C D : MI) (P : MP) (n : Nat) (cs : CS K V P n) (s : Nat) (hs : s < 2) (ld sk : Int32) (N T : List Msg) (U : Msg) (hnc : NC K P B ld sk N T U) (q : Nat) (hq : V.1 5 q) (x : Msg) (hcm : CM B q x) (hoff : offR K P q) : Ct l K md_Srv_answer (2, 47) 0 0 [.ref (K.ad 1 s), .ref (K.ad 5 q), .int (-1), .ref (K.ad 4 0)] V (bk4 A B C D) P (NP K V C D P ld sk none A (netput (m_ans s (x 2) (x 5) 0 (-1) 0) N) T U) := by
  refine ct_of [(0, .ref (K.ad 1 s)), (1, .ref (K.ad 5 q)), (2, .int (-1)), (3, .ref (K.ad 4 0))] (by decide) (Nat.le_of_ble_eq_true rfl) (ca_r (ca_r (ca_i (ca_r ca_n)))) rfl ?_
  intro X hl hX
  have h : OkX X b_Srv_answer R_Srv K := hX.1
  have hN : X.nL = 5 := hX.2.1
  have hsv := cs_sv cs hs
  obtain ⟨kb, t, g, f, ft, nw⟩ := id hnc
  have rg := nw.1
  have hnv := cs_nv cs
  have hq0 : adq g t f N.length < 600 := (rg.2.2.2.2.2.2.2.1 t _ rg.1 (Nat.mod_lt _ (by decide))).2
  have hqv : V.1 5 (adq g t f N.length) := cs_mv cs (Nat.lt_succ_of_lt hq0)
  have hz91 := nw.2.2.2.2.2.2 _ (Nat.lt_succ_of_lt hq0)
  have hne := offR_ne hoff rg
  refine j_aload_n h d_Srv_answer_0 rfl ?_
  refine j_iconst (v := 1) h d_Srv_answer_1 (by decide) ?_
  refine j_aload_n h d_Srv_answer_2 rfl ?_
  refine j_get1e h d_Srv_answer_3 fl_Srv_9 rfl (by assumption) (kb s hs).1 ?_
  refine j_aload_n h d_Srv_answer_6 rfl ?_
  refine j_get1e (v := x 2) h d_Srv_answer_7 fl_Srv_84 rfl (by assumption) (by first | exact hcm.1 2 (by decide) | (simp [up_rd, mB_rd, hne, adB_k]; exact hcm.1 2 (by decide))) ?_
  refine j_callV h (c_Net_add _ _ _ _ _ _ _ _ _ cs _ _ _ _ rg _ _ _) d_Srv_answer_10 ml_Srv_142 mv_Net_add (by assumption) ⟨rfl, rfl⟩ rfl rfl (Nat.le_of_ble_eq_true rfl) (hR_of hX (by decide) (by decide)) (hf_of hX (by decide) (by decide)) ?_
  rintro _ _ _ _ ⟨rfl, rfl, rfl, rfl⟩
  refine j_astore h d_Srv_answer_13 (Nat.lt_of_lt_of_eq (m := 5) (by decide) hN.symm) ?_
  refine j_aload h d_Srv_answer_15 rfl ?_
  refine j_aload_n h d_Srv_answer_17 rfl ?_
  refine j_get1e (v := x 5) h d_Srv_answer_18 fl_Srv_125 rfl (by assumption) (by first | exact hcm.1 5 (by decide) | (simp [up_rd, mB_rd, hne, adB_k]; exact hcm.1 5 (by decide))) ?_
  refine j_put1 h d_Srv_answer_21 fw_Srv_125 rfl rfl (by assumption) ?_
  refine j_iload_n h d_Srv_answer_24 rfl ?_
  refine j_iconst (v := -1) h d_Srv_answer_25 (by decide) ?_
  refine j_ic_eq (tgt := 55) h d_Srv_answer_26 (by decide) (fun _ => ?_) (fun z => absurd rfl z)
  exact j_vret hX d_Srv_answer_55 rfl (Nat.le_refl _) (Nat.le_refl _) ⟨rfl, rfl, rfl, _, rfl, NC_add kb nw (by repeat (first | exact oq_b _ _ _ _ _ | refine oq_u (by decide) ?_)) (by
        refine ⟨fun w hw => ?_, fun h3 => ?_, fun h4 => ?_⟩
        · rcases (show w = 0 ∨ w = 1 ∨ w = 2 ∨ w = 3 ∨ w = 4 ∨ w = 5 ∨ w = 6 by omega) with rfl | rfl | rfl | rfl | rfl | rfl | rfl <;> simp [up_rd, mB_rd, m_ans, mk7]
        · exact absurd h3 (show ¬ (1 : Int32) = 3 by decide)
        · exact absurd h4 (show ¬ (1 : Int32) = 4 by decide)) (by simpa [up_rd, mB_rd, adB_k] using hz91)⟩
set_option maxRecDepth 100000 in
set_option maxHeartbeats 4000000 in
theorem c_Srv_answer_yes (l : Launch) (K : Kx) (V : Vx) (A B C D : MI) (P : MP) (n : Nat) (cs : CS K V P n) (s : Nat) (hs : s < 2) (ld sk : Int32) (N T : List Msg) (U : Msg) (hnc : NC K P B ld sk N T U) (q : Nat) (hq : V.1 5 q) (x : Msg) (hcm : CM B q x) (hoff : offR K P q) (a : Nat) (ha : a < n) : Ct l K md_Srv_answer (2, 47) 0 0 [.ref (K.ad 1 s), .ref (K.ad 5 q), .int (nI a), .ref (K.ad 4 0)] V (bk4 A B C D) P (NP K V C D P ld sk none A (netput (m_ans s (x 2) (x 5) 1 (nI a) (A 12 (32 * s + a))) N) T U) := by
  refine ct_of [(0, .ref (K.ad 1 s)), (1, .ref (K.ad 5 q)), (2, .int (nI a)), (3, .ref (K.ad 4 0))] (by decide) (Nat.le_of_ble_eq_true rfl) (ca_r (ca_r (ca_i (ca_r ca_n)))) rfl ?_
  intro X hl hX
  have h : OkX X b_Srv_answer R_Srv K := hX.1
  have hN : X.nL = 5 := hX.2.1
  have hsv := cs_sv cs hs
  obtain ⟨kb, t, g, f, ft, nw⟩ := id hnc
  have rg := nw.1
  have hnv := cs_nv cs
  have hq0 : adq g t f N.length < 600 := (rg.2.2.2.2.2.2.2.1 t _ rg.1 (Nat.mod_lt _ (by decide))).2
  have hqv : V.1 5 (adq g t f N.length) := cs_mv cs (Nat.lt_succ_of_lt hq0)
  have hz91 := nw.2.2.2.2.2.2 _ (Nat.lt_succ_of_lt hq0)
  have hne := offR_ne hoff rg
  have hr := cs_rv cs hs ha
  have hn31 := cs_n31 cs
  refine j_aload_n h d_Srv_answer_0 rfl ?_
  refine j_iconst (v := 1) h d_Srv_answer_1 (by decide) ?_
  refine j_aload_n h d_Srv_answer_2 rfl ?_
  refine j_get1e h d_Srv_answer_3 fl_Srv_9 rfl (by assumption) (kb s hs).1 ?_
  refine j_aload_n h d_Srv_answer_6 rfl ?_
  refine j_get1e (v := x 2) h d_Srv_answer_7 fl_Srv_84 rfl (by assumption) (by first | exact hcm.1 2 (by decide) | (simp [up_rd, mB_rd, hne, adB_k]; exact hcm.1 2 (by decide))) ?_
  refine j_callV h (c_Net_add _ _ _ _ _ _ _ _ _ cs _ _ _ _ rg _ _ _) d_Srv_answer_10 ml_Srv_142 mv_Net_add (by assumption) ⟨rfl, rfl⟩ rfl rfl (Nat.le_of_ble_eq_true rfl) (hR_of hX (by decide) (by decide)) (hf_of hX (by decide) (by decide)) ?_
  rintro _ _ _ _ ⟨rfl, rfl, rfl, rfl⟩
  refine j_astore h d_Srv_answer_13 (Nat.lt_of_lt_of_eq (m := 5) (by decide) hN.symm) ?_
  refine j_aload h d_Srv_answer_15 rfl ?_
  refine j_aload_n h d_Srv_answer_17 rfl ?_
  refine j_get1e (v := x 5) h d_Srv_answer_18 fl_Srv_125 rfl (by assumption) (by first | exact hcm.1 5 (by decide) | (simp [up_rd, mB_rd, hne, adB_k]; exact hcm.1 5 (by decide))) ?_
  refine j_put1 h d_Srv_answer_21 fw_Srv_125 rfl rfl (by assumption) ?_
  refine j_iload_n h d_Srv_answer_24 rfl ?_
  refine j_iconst (v := -1) h d_Srv_answer_25 (by decide) ?_
  refine j_ic_eq (tgt := 55) h d_Srv_answer_26 (by decide) (fun z => absurd z (nI_m1 (by omega))) (fun _ => ?_)
  refine j_aload h d_Srv_answer_29 rfl ?_
  refine j_iconst (v := 1) h d_Srv_answer_31 (by decide) ?_
  refine j_put1 h d_Srv_answer_32 fw_Srv_74 rfl rfl (by assumption) ?_
  refine j_aload h d_Srv_answer_35 rfl ?_
  refine j_iload_n h d_Srv_answer_37 rfl ?_
  refine j_put1 h d_Srv_answer_38 fw_Srv_81 rfl rfl (by assumption) ?_
  refine j_aload h d_Srv_answer_41 rfl ?_
  refine j_aload_n h d_Srv_answer_43 rfl ?_
  refine j_getR h d_Srv_answer_44 fl_Srv_26 rfl (by assumption) (cs_rp cs hs) ?_
  refine j_iload_n h d_Srv_answer_47 rfl ?_
  refine j_recs h cs hs ha d_Srv_answer_48 ?_
  refine j_get0 h d_Srv_answer_49 fl_Srv_107 rfl (by assumption) ?_
  refine j_put1 h d_Srv_answer_52 fw_Srv_114 rfl rfl (by assumption) ?_
  exact j_vret hX d_Srv_answer_55 rfl (Nat.le_refl _) (Nat.le_refl _) ⟨rfl, rfl, rfl, _, rfl, NC_add kb nw (by repeat (first | exact oq_b _ _ _ _ _ | refine oq_u (by decide) ?_)) (by
      refine ⟨fun w hw => ?_, fun h3 => ?_, fun h4 => ?_⟩
      · rcases (show w = 0 ∨ w = 1 ∨ w = 2 ∨ w = 3 ∨ w = 4 ∨ w = 5 ∨ w = 6 by omega) with rfl | rfl | rfl | rfl | rfl | rfl | rfl <;> simp [up_rd, mB_rd, m_ans, mk7]
      · exact absurd h3 (show ¬ (1 : Int32) = 3 by decide)
      · exact absurd h4 (show ¬ (1 : Int32) = 4 by decide)) (by simpa [up_rd, mB_rd, adB_k] using hz91)⟩
theorem d_Srv_sendAll_0 : decode b_Srv_sendAll 0 = .ok (.iconst 0, 1) := by decide +kernel
theorem d_Srv_sendAll_1 : decode b_Srv_sendAll 1 = .ok (.istore_n 2, 1) := by decide +kernel
theorem d_Srv_sendAll_2 : decode b_Srv_sendAll 2 = .ok (.iload_n 2, 1) := by decide +kernel
theorem d_Srv_sendAll_3 : decode b_Srv_sendAll 3 = .ok (.aload_n 0, 1) := by decide +kernel
theorem d_Srv_sendAll_4 : decode b_Srv_sendAll 4 = .ok (.getfield 26, 3) := by decide +kernel
theorem d_Srv_sendAll_7 : decode b_Srv_sendAll 7 = .ok (.arraylength, 1) := by decide +kernel
theorem d_Srv_sendAll_8 : decode b_Srv_sendAll 8 = .ok (.if_icmp .ge 15, 3) := by decide +kernel
theorem d_Srv_sendAll_11 : decode b_Srv_sendAll 11 = .ok (.aload_n 0, 1) := by decide +kernel
theorem d_Srv_sendAll_12 : decode b_Srv_sendAll 12 = .ok (.iload_n 2, 1) := by decide +kernel
theorem d_Srv_sendAll_13 : decode b_Srv_sendAll 13 = .ok (.aload_n 1, 1) := by decide +kernel
theorem d_Srv_sendAll_14 : decode b_Srv_sendAll 14 = .ok (.invokevirtual 218, 3) := by decide +kernel
theorem d_Srv_sendAll_17 : decode b_Srv_sendAll 17 = .ok (.iinc 2 1, 3) := by decide +kernel
theorem d_Srv_sendAll_20 : decode b_Srv_sendAll 20 = .ok (.goto (-18), 3) := by decide +kernel
theorem d_Srv_sendAll_23 : decode b_Srv_sendAll 23 = .ok (.return_, 1) := by decide +kernel
set_option maxRecDepth 100000 in
set_option maxHeartbeats 4000000 in
theorem c_Srv_sendAll (l : Launch) (K : Kx) (V : Vx) (A B C D : MI) (P : MP) (n : Nat) (cs : CS K V P n) (s : Nat) (hs : s < 2) (ld sk : Int32) (N T : List Msg) (U : Msg) (hnc : NC K P B ld sk N T U) (hz : ∀ i, A 14 i = 0 ∨ A 14 i = 1) : Ct l K md_Srv_sendAll (3, 71) 0 0 [.ref (K.ad 1 s), .ref (K.ad 4 0)] V (bk4 A B C D) P (NP K V C D P ld sk none A (updR A s n 0 N) T U) := by
  refine ct_of [(0, .ref (K.ad 1 s)), (1, .ref (K.ad 4 0))] (by decide) (Nat.le_of_ble_eq_true rfl) (ca_r (ca_r ca_n)) rfl ?_
  intro X hl hX
  have h : OkX X b_Srv_sendAll R_Srv K := hX.1
  have hN : X.nL = 3 := hX.2.1
  have hsv := cs_sv cs hs
  have hL : ∀ (k i : Nat) (B1 : MI) (N1 : List Msg), i + k = n → NC K P B1 ld sk N1 T U ∧ updR A s n 0 N = updR A s k i N1 → J X K V (bk4 A B1 C D) P 0 0 2 [(0, .ref (K.ad 1 s)), (1, .ref (K.ad 4 0)), (2, .int (nI i))] [] := by
    intro k
    induction k with
    | zero =>
      intro i B1 N1 hi hv
      have hi2 : i = n := by omega
      subst hi2
      refine j_iload_n h d_Srv_sendAll_2 rfl ?_
      refine j_aload_n h d_Srv_sendAll_3 rfl ?_
      refine j_getR h d_Srv_sendAll_4 fl_Srv_26 rfl (by assumption) (cs_rp cs hs) ?_
      refine j_recl h cs hs d_Srv_sendAll_7 ?_
      refine j_ic_ge (tgt := 23) h d_Srv_sendAll_8 (by decide) (fun _ => ?_) (fun c => absurd (nI_le (Nat.le_refl _) (cs_n31 cs)) c)
      have hn1 := hv.1
      exact j_vret hX d_Srv_sendAll_23 rfl (Nat.le_refl _) (Nat.le_refl _) ⟨rfl, rfl, rfl, _, rfl, by rw [hv.2]; exact hn1⟩
    | succ k ih =>
      intro i B1 N1 hi hv
      have hi2 : i < n := by omega
      have hn1 := hv.1
      have hr := cs_rv cs hs hi2
      refine j_iload_n h d_Srv_sendAll_2 rfl ?_
      refine j_aload_n h d_Srv_sendAll_3 rfl ?_
      refine j_getR h d_Srv_sendAll_4 fl_Srv_26 rfl (by assumption) (cs_rp cs hs) ?_
      refine j_recl h cs hs d_Srv_sendAll_7 ?_
      refine j_ic_ge (tgt := 23) h d_Srv_sendAll_8 (by decide) (fun c => absurd c (nI_ge hi2 (cs_n31 cs))) (fun _ => ?_)
      refine j_aload_n h d_Srv_sendAll_11 rfl ?_
      refine j_iload_n h d_Srv_sendAll_12 rfl ?_
      refine j_aload_n h d_Srv_sendAll_13 rfl ?_
      refine j_callV h (c_Srv_sendUpdate _ _ _ _ _ _ _ _ _ cs _ hs _ _ _ _ _ hn1 _ hi2 (hz _)) d_Srv_sendAll_14 ml_Srv_218 mv_Srv_sendUpdate (by assumption) ⟨rfl, rfl⟩ rfl rfl (Nat.le_of_ble_eq_true rfl) (hR_of hX (by decide) (by decide)) (hf_of hX (by decide) (by decide)) ?_
      rintro _ _ _ _ ⟨rfl, rfl, rfl, B2, rfl, hn2⟩
      refine j_iinc (v := nI (i + 1)) h d_Srv_sendAll_17 rfl (nI_i i) (Nat.lt_of_lt_of_eq (m := 3) (by decide) hN.symm) ?_
      refine j_goto (tgt := 2) h d_Srv_sendAll_20 (by decide) ?_
      refine j_lv (lv' := [(0, .ref (K.ad 1 s)), (1, .ref (K.ad 4 0)), (2, .int (nI (i + 1)))]) (lvs rfl (lvs rfl (lvs rfl lvs0))) ?_
      exact ih (i + 1) B2 _ (by omega) ⟨hn2, hv.2⟩
  refine j_iconst (v := 0) h d_Srv_sendAll_0 (by decide) ?_
  refine j_istore_n h d_Srv_sendAll_1 (Nat.lt_of_lt_of_eq (m := 3) (by decide) hN.symm) ?_
  refine j_lv (lv' := [(0, .ref (K.ad 1 s)), (1, .ref (K.ad 4 0)), (2, .int (nI 0))]) (lvs rfl (lvs rfl (lvs rfl lvs0))) ?_
  exact hL n 0 B N (by omega) ⟨hnc, rfl⟩
