/-! the model: acknowledgements, taking in -/
theorem d_Mod_hearAck_0 : decode b_Mod_hearAck 0 = .ok (.bipush 32, 2) := by decide +kernel
theorem d_Mod_hearAck_2 : decode b_Mod_hearAck 2 = .ok (.iload_n 1, 1) := by decide +kernel
theorem d_Mod_hearAck_3 : decode b_Mod_hearAck 3 = .ok (.imul, 1) := by decide +kernel
theorem d_Mod_hearAck_4 : decode b_Mod_hearAck 4 = .ok (.aload_n 2, 1) := by decide +kernel
theorem d_Mod_hearAck_5 : decode b_Mod_hearAck 5 = .ok (.iconst 4, 1) := by decide +kernel
theorem d_Mod_hearAck_6 : decode b_Mod_hearAck 6 = .ok (.iaload, 1) := by decide +kernel
theorem d_Mod_hearAck_7 : decode b_Mod_hearAck 7 = .ok (.iadd, 1) := by decide +kernel
theorem d_Mod_hearAck_8 : decode b_Mod_hearAck 8 = .ok (.istore_n 3, 1) := by decide +kernel
theorem d_Mod_hearAck_9 : decode b_Mod_hearAck 9 = .ok (.aload_n 2, 1) := by decide +kernel
theorem d_Mod_hearAck_10 : decode b_Mod_hearAck 10 = .ok (.bipush 7, 2) := by decide +kernel
theorem d_Mod_hearAck_12 : decode b_Mod_hearAck 12 = .ok (.iaload, 1) := by decide +kernel
theorem d_Mod_hearAck_13 : decode b_Mod_hearAck 13 = .ok (.aload_n 0, 1) := by decide +kernel
theorem d_Mod_hearAck_14 : decode b_Mod_hearAck 14 = .ok (.getfield 65, 3) := by decide +kernel
theorem d_Mod_hearAck_17 : decode b_Mod_hearAck 17 = .ok (.iload_n 3, 1) := by decide +kernel
theorem d_Mod_hearAck_18 : decode b_Mod_hearAck 18 = .ok (.iaload, 1) := by decide +kernel
theorem d_Mod_hearAck_19 : decode b_Mod_hearAck 19 = .ok (.if_icmp .gt 4, 3) := by decide +kernel
theorem d_Mod_hearAck_22 : decode b_Mod_hearAck 22 = .ok (.return_, 1) := by decide +kernel
theorem d_Mod_hearAck_23 : decode b_Mod_hearAck 23 = .ok (.iconst 0, 1) := by decide +kernel
theorem d_Mod_hearAck_24 : decode b_Mod_hearAck 24 = .ok (.istore 4, 2) := by decide +kernel
theorem d_Mod_hearAck_26 : decode b_Mod_hearAck 26 = .ok (.aload_n 0, 1) := by decide +kernel
theorem d_Mod_hearAck_27 : decode b_Mod_hearAck 27 = .ok (.getfield 34, 3) := by decide +kernel
theorem d_Mod_hearAck_30 : decode b_Mod_hearAck 30 = .ok (.iload_n 3, 1) := by decide +kernel
theorem d_Mod_hearAck_31 : decode b_Mod_hearAck 31 = .ok (.iaload, 1) := by decide +kernel
theorem d_Mod_hearAck_32 : decode b_Mod_hearAck 32 = .ok (.iconst 2, 1) := by decide +kernel
theorem d_Mod_hearAck_33 : decode b_Mod_hearAck 33 = .ok (.if_icmp .eq 13, 3) := by decide +kernel
theorem d_Mod_hearAck_36 : decode b_Mod_hearAck 36 = .ok (.aload_n 0, 1) := by decide +kernel
theorem d_Mod_hearAck_37 : decode b_Mod_hearAck 37 = .ok (.getfield 34, 3) := by decide +kernel
theorem d_Mod_hearAck_40 : decode b_Mod_hearAck 40 = .ok (.iload_n 3, 1) := by decide +kernel
theorem d_Mod_hearAck_41 : decode b_Mod_hearAck 41 = .ok (.iaload, 1) := by decide +kernel
theorem d_Mod_hearAck_42 : decode b_Mod_hearAck 42 = .ok (.iconst 3, 1) := by decide +kernel
theorem d_Mod_hearAck_43 : decode b_Mod_hearAck 43 = .ok (.if_icmp .ne 41, 3) := by decide +kernel
theorem d_Mod_hearAck_46 : decode b_Mod_hearAck 46 = .ok (.aload_n 2, 1) := by decide +kernel
theorem d_Mod_hearAck_47 : decode b_Mod_hearAck 47 = .ok (.iconst 5, 1) := by decide +kernel
theorem d_Mod_hearAck_48 : decode b_Mod_hearAck 48 = .ok (.iaload, 1) := by decide +kernel
theorem d_Mod_hearAck_49 : decode b_Mod_hearAck 49 = .ok (.aload_n 0, 1) := by decide +kernel
theorem d_Mod_hearAck_50 : decode b_Mod_hearAck 50 = .ok (.getfield 53, 3) := by decide +kernel
theorem d_Mod_hearAck_53 : decode b_Mod_hearAck 53 = .ok (.iload_n 3, 1) := by decide +kernel
theorem d_Mod_hearAck_54 : decode b_Mod_hearAck 54 = .ok (.iaload, 1) := by decide +kernel
theorem d_Mod_hearAck_55 : decode b_Mod_hearAck 55 = .ok (.if_icmp .lt 29, 3) := by decide +kernel
theorem d_Mod_hearAck_58 : decode b_Mod_hearAck 58 = .ok (.aload_n 2, 1) := by decide +kernel
theorem d_Mod_hearAck_59 : decode b_Mod_hearAck 59 = .ok (.bipush 6, 2) := by decide +kernel
theorem d_Mod_hearAck_61 : decode b_Mod_hearAck 61 = .ok (.iaload, 1) := by decide +kernel
theorem d_Mod_hearAck_62 : decode b_Mod_hearAck 62 = .ok (.aload_n 0, 1) := by decide +kernel
theorem d_Mod_hearAck_63 : decode b_Mod_hearAck 63 = .ok (.getfield 59, 3) := by decide +kernel
theorem d_Mod_hearAck_66 : decode b_Mod_hearAck 66 = .ok (.iload_n 3, 1) := by decide +kernel
theorem d_Mod_hearAck_67 : decode b_Mod_hearAck 67 = .ok (.iaload, 1) := by decide +kernel
theorem d_Mod_hearAck_68 : decode b_Mod_hearAck 68 = .ok (.if_icmp .le 16, 3) := by decide +kernel
theorem d_Mod_hearAck_71 : decode b_Mod_hearAck 71 = .ok (.aload_n 0, 1) := by decide +kernel
theorem d_Mod_hearAck_72 : decode b_Mod_hearAck 72 = .ok (.getfield 59, 3) := by decide +kernel
theorem d_Mod_hearAck_75 : decode b_Mod_hearAck 75 = .ok (.iload_n 3, 1) := by decide +kernel
theorem d_Mod_hearAck_76 : decode b_Mod_hearAck 76 = .ok (.aload_n 2, 1) := by decide +kernel
theorem d_Mod_hearAck_77 : decode b_Mod_hearAck 77 = .ok (.bipush 6, 2) := by decide +kernel
theorem d_Mod_hearAck_79 : decode b_Mod_hearAck 79 = .ok (.iaload, 1) := by decide +kernel
theorem d_Mod_hearAck_80 : decode b_Mod_hearAck 80 = .ok (.iastore, 1) := by decide +kernel
theorem d_Mod_hearAck_81 : decode b_Mod_hearAck 81 = .ok (.iconst 1, 1) := by decide +kernel
theorem d_Mod_hearAck_82 : decode b_Mod_hearAck 82 = .ok (.istore 4, 2) := by decide +kernel
theorem d_Mod_hearAck_84 : decode b_Mod_hearAck 84 = .ok (.aload_n 2, 1) := by decide +kernel
theorem d_Mod_hearAck_85 : decode b_Mod_hearAck 85 = .ok (.iconst 5, 1) := by decide +kernel
theorem d_Mod_hearAck_86 : decode b_Mod_hearAck 86 = .ok (.iaload, 1) := by decide +kernel
theorem d_Mod_hearAck_87 : decode b_Mod_hearAck 87 = .ok (.aload_n 0, 1) := by decide +kernel
theorem d_Mod_hearAck_88 : decode b_Mod_hearAck 88 = .ok (.getfield 50, 3) := by decide +kernel
theorem d_Mod_hearAck_91 : decode b_Mod_hearAck 91 = .ok (.iload_n 3, 1) := by decide +kernel
theorem d_Mod_hearAck_92 : decode b_Mod_hearAck 92 = .ok (.iaload, 1) := by decide +kernel
theorem d_Mod_hearAck_93 : decode b_Mod_hearAck 93 = .ok (.if_icmp .ne 82, 3) := by decide +kernel
theorem d_Mod_hearAck_96 : decode b_Mod_hearAck 96 = .ok (.aload_n 0, 1) := by decide +kernel
theorem d_Mod_hearAck_97 : decode b_Mod_hearAck 97 = .ok (.getfield 56, 3) := by decide +kernel
theorem d_Mod_hearAck_100 : decode b_Mod_hearAck 100 = .ok (.iload_n 3, 1) := by decide +kernel
theorem d_Mod_hearAck_101 : decode b_Mod_hearAck 101 = .ok (.baload, 1) := by decide +kernel
theorem d_Mod_hearAck_102 : decode b_Mod_hearAck 102 = .ok (.ifCond .eq 73, 3) := by decide +kernel
theorem d_Mod_hearAck_105 : decode b_Mod_hearAck 105 = .ok (.aload_n 0, 1) := by decide +kernel
theorem d_Mod_hearAck_106 : decode b_Mod_hearAck 106 = .ok (.getfield 56, 3) := by decide +kernel
theorem d_Mod_hearAck_109 : decode b_Mod_hearAck 109 = .ok (.iload_n 3, 1) := by decide +kernel
theorem d_Mod_hearAck_110 : decode b_Mod_hearAck 110 = .ok (.iconst 0, 1) := by decide +kernel
theorem d_Mod_hearAck_111 : decode b_Mod_hearAck 111 = .ok (.bastore, 1) := by decide +kernel
theorem d_Mod_hearAck_112 : decode b_Mod_hearAck 112 = .ok (.iconst 1, 1) := by decide +kernel
theorem d_Mod_hearAck_113 : decode b_Mod_hearAck 113 = .ok (.istore 4, 2) := by decide +kernel
theorem d_Mod_hearAck_115 : decode b_Mod_hearAck 115 = .ok (.aload_n 0, 1) := by decide +kernel
theorem d_Mod_hearAck_116 : decode b_Mod_hearAck 116 = .ok (.getfield 34, 3) := by decide +kernel
theorem d_Mod_hearAck_119 : decode b_Mod_hearAck 119 = .ok (.iload_n 3, 1) := by decide +kernel
theorem d_Mod_hearAck_120 : decode b_Mod_hearAck 120 = .ok (.iaload, 1) := by decide +kernel
theorem d_Mod_hearAck_121 : decode b_Mod_hearAck 121 = .ok (.iconst 3, 1) := by decide +kernel
theorem d_Mod_hearAck_122 : decode b_Mod_hearAck 122 = .ok (.if_icmp .eq 13, 3) := by decide +kernel
theorem d_Mod_hearAck_125 : decode b_Mod_hearAck 125 = .ok (.aload_n 0, 1) := by decide +kernel
theorem d_Mod_hearAck_126 : decode b_Mod_hearAck 126 = .ok (.getfield 34, 3) := by decide +kernel
theorem d_Mod_hearAck_129 : decode b_Mod_hearAck 129 = .ok (.iload_n 3, 1) := by decide +kernel
theorem d_Mod_hearAck_130 : decode b_Mod_hearAck 130 = .ok (.iaload, 1) := by decide +kernel
theorem d_Mod_hearAck_131 : decode b_Mod_hearAck 131 = .ok (.iconst 4, 1) := by decide +kernel
theorem d_Mod_hearAck_132 : decode b_Mod_hearAck 132 = .ok (.if_icmp .ne 43, 3) := by decide +kernel
theorem d_Mod_hearAck_135 : decode b_Mod_hearAck 135 = .ok (.aload_n 0, 1) := by decide +kernel
theorem d_Mod_hearAck_136 : decode b_Mod_hearAck 136 = .ok (.getfield 34, 3) := by decide +kernel
theorem d_Mod_hearAck_139 : decode b_Mod_hearAck 139 = .ok (.iload_n 3, 1) := by decide +kernel
theorem d_Mod_hearAck_140 : decode b_Mod_hearAck 140 = .ok (.aload_n 0, 1) := by decide +kernel
theorem d_Mod_hearAck_141 : decode b_Mod_hearAck 141 = .ok (.getfield 34, 3) := by decide +kernel
theorem d_Mod_hearAck_144 : decode b_Mod_hearAck 144 = .ok (.iload_n 3, 1) := by decide +kernel
theorem d_Mod_hearAck_145 : decode b_Mod_hearAck 145 = .ok (.iaload, 1) := by decide +kernel
theorem d_Mod_hearAck_146 : decode b_Mod_hearAck 146 = .ok (.iconst 3, 1) := by decide +kernel
theorem d_Mod_hearAck_147 : decode b_Mod_hearAck 147 = .ok (.if_icmp .ne 7, 3) := by decide +kernel
theorem d_Mod_hearAck_150 : decode b_Mod_hearAck 150 = .ok (.iconst 1, 1) := by decide +kernel
theorem d_Mod_hearAck_151 : decode b_Mod_hearAck 151 = .ok (.goto 4, 3) := by decide +kernel
theorem d_Mod_hearAck_154 : decode b_Mod_hearAck 154 = .ok (.iconst 0, 1) := by decide +kernel
theorem d_Mod_hearAck_155 : decode b_Mod_hearAck 155 = .ok (.iastore, 1) := by decide +kernel
theorem d_Mod_hearAck_156 : decode b_Mod_hearAck 156 = .ok (.aload_n 0, 1) := by decide +kernel
theorem d_Mod_hearAck_157 : decode b_Mod_hearAck 157 = .ok (.getfield 62, 3) := by decide +kernel
theorem d_Mod_hearAck_160 : decode b_Mod_hearAck 160 = .ok (.iload_n 3, 1) := by decide +kernel
theorem d_Mod_hearAck_161 : decode b_Mod_hearAck 161 = .ok (.aload_n 0, 1) := by decide +kernel
theorem d_Mod_hearAck_162 : decode b_Mod_hearAck 162 = .ok (.getfield 62, 3) := by decide +kernel
theorem d_Mod_hearAck_165 : decode b_Mod_hearAck 165 = .ok (.iload_n 3, 1) := by decide +kernel
theorem d_Mod_hearAck_166 : decode b_Mod_hearAck 166 = .ok (.iaload, 1) := by decide +kernel
theorem d_Mod_hearAck_167 : decode b_Mod_hearAck 167 = .ok (.aload_n 2, 1) := by decide +kernel
theorem d_Mod_hearAck_168 : decode b_Mod_hearAck 168 = .ok (.bipush 8, 2) := by decide +kernel
theorem d_Mod_hearAck_170 : decode b_Mod_hearAck 170 = .ok (.iaload, 1) := by decide +kernel
theorem d_Mod_hearAck_171 : decode b_Mod_hearAck 171 = .ok (.invokestatic 150, 3) := by decide +kernel
theorem d_Mod_hearAck_174 : decode b_Mod_hearAck 174 = .ok (.iastore, 1) := by decide +kernel
theorem d_Mod_hearAck_175 : decode b_Mod_hearAck 175 = .ok (.iload 4, 2) := by decide +kernel
theorem d_Mod_hearAck_177 : decode b_Mod_hearAck 177 = .ok (.ifCond .eq 11, 3) := by decide +kernel
theorem d_Mod_hearAck_180 : decode b_Mod_hearAck 180 = .ok (.aload_n 0, 1) := by decide +kernel
theorem d_Mod_hearAck_181 : decode b_Mod_hearAck 181 = .ok (.iload_n 1, 1) := by decide +kernel
theorem d_Mod_hearAck_182 : decode b_Mod_hearAck 182 = .ok (.invokevirtual 147, 3) := by decide +kernel
theorem d_Mod_hearAck_185 : decode b_Mod_hearAck 185 = .ok (.ifCond .eq 7, 3) := by decide +kernel
theorem d_Mod_hearAck_188 : decode b_Mod_hearAck 188 = .ok (.iconst 1, 1) := by decide +kernel
theorem d_Mod_hearAck_189 : decode b_Mod_hearAck 189 = .ok (.goto 4, 3) := by decide +kernel
theorem d_Mod_hearAck_192 : decode b_Mod_hearAck 192 = .ok (.iconst 0, 1) := by decide +kernel
theorem d_Mod_hearAck_193 : decode b_Mod_hearAck 193 = .ok (.istore 5, 2) := by decide +kernel
theorem d_Mod_hearAck_195 : decode b_Mod_hearAck 195 = .ok (.return_, 1) := by decide +kernel
set_option maxRecDepth 100000 in
set_option maxHeartbeats 4000000 in
theorem c_Mod_hearAck (l : Launch) (K : Kx) (V : Vx) (A B C D : MI) (P : MP) (ms : MSt K V P) (s : Nat) (hs : s < 2) (n a : Nat) (ha : a < n) (hn : n ≤ 32) (x : Msg) (hrd : ∀ w, w < 14 → D 75 w = x w) (hx4 : x 4 = nI a) : Ct l K md_Mod_hearAck (1, 21) 0 0 [.ref (K.ad 6 0), .int (nI s), .ref (K.aad 38)] V (bk4 A B C D) P (EQ V (none) (bk4 A B (hrAck C (32 * s + a) s (x 5) (x 6) (x 7) (x 8)) D) P) := by
  refine ct_of [(0, .ref (K.ad 6 0)), (1, .int (nI s)), (2, .ref (K.aad 38))] (by decide) (Nat.le_of_ble_eq_true rfl) (ca_r (ca_i (ca_r ca_n))) rfl ?_
  intro X hl hX
  have h : OkX X b_Mod_hearAck R_Mod K := hX.1
  have hN : X.nL = 6 := hX.2.1
  have hmv := ms.1
  have h175 : ∀ (C2 : MI) (w : Int32), ¬ ¬ C 20 (32 * s + a) < x 7 → C2 = (lnAck (lnKnown C (32 * s + a) (x 5) (x 6)).2 (32 * s + a) (x 5) (x 8)).2 → (w = 0 ↔ (lnKnown C (32 * s + a) (x 5) (x 6)).1 = 0 ∧ (lnAck (lnKnown C (32 * s + a) (x 5) (x 6)).2 (32 * s + a) (x 5) (x 8)).1 = 0) → J X K V (bk4 A B C2 D) P 0 0 175 [(0, .ref (K.ad 6 0)), (1, .int (nI s)), (2, .ref (K.aad 38)), (3, .int (nI (32 * s + a))), (4, .int w)] [] := by
    intro C2 w hv e1 e2
    refine j_iload h d_Mod_hearAck_175 rfl ?_
    refine j_if_eq (tgt := 188) h d_Mod_hearAck_177 (by decide) (fun c => ?_) (fun c => ?_)
    · have e9 : hrAck C (32 * s + a) s (x 5) (x 6) (x 7) (x 8) = C2 := by
        unfold hrAck
        rw [if_neg hv, if_neg (by have := e2.mp c; rintro (q | q); exact q this.1; exact q this.2), e1]
      refine j_iconst (v := 1) h d_Mod_hearAck_188 (by decide) ?_
      refine j_goto (tgt := 193) h d_Mod_hearAck_189 (by decide) ?_
      refine j_istore h d_Mod_hearAck_193 (Nat.lt_of_lt_of_eq (m := 6) (by decide) hN.symm) ?_
      exact j_vret hX d_Mod_hearAck_195 rfl (Nat.le_refl _) (Nat.le_refl _) ⟨rfl, rfl, by rw [e9], rfl⟩
    · have e9 : hrAck C (32 * s + a) s (x 5) (x 6) (x 7) (x 8) = wr C2 s := by
        unfold hrAck
        rw [if_neg hv, if_pos (Classical.byContradiction fun q => c (e2.mpr ⟨Classical.byContradiction fun p => q (Or.inl p), Classical.byContradiction fun p => q (Or.inr p)⟩)), e1]
      refine j_aload_n h d_Mod_hearAck_180 rfl ?_
      refine j_iload_n h d_Mod_hearAck_181 rfl ?_
      refine j_callV h (c_Mod_writes _ _ _ _ _ _ _ _ ms _ hs) d_Mod_hearAck_182 ml_Mod_147 mv_Mod_writes (by assumption) ⟨rfl, rfl⟩ rfl rfl (Nat.le_of_ble_eq_true rfl) (hR_of hX (by decide) (by decide)) (hf_of hX (by decide) (by decide)) ?_
      rintro _ _ _ _ ⟨rfl, rfl, rfl, rfl⟩
      refine j_if_eq (tgt := 192) h d_Mod_hearAck_185 (by decide) (fun c1 => ?_) (fun c1 => ?_)
      · refine j_iconst (v := 0) h d_Mod_hearAck_192 (by decide) ?_
        refine j_istore h d_Mod_hearAck_193 (Nat.lt_of_lt_of_eq (m := 6) (by decide) hN.symm) ?_
        exact j_vret hX d_Mod_hearAck_195 rfl (Nat.le_refl _) (Nat.le_refl _) ⟨rfl, rfl, by rw [e9], rfl⟩
      · refine j_iconst (v := 1) h d_Mod_hearAck_188 (by decide) ?_
        refine j_goto (tgt := 193) h d_Mod_hearAck_189 (by decide) ?_
        refine j_istore h d_Mod_hearAck_193 (Nat.lt_of_lt_of_eq (m := 6) (by decide) hN.symm) ?_
        exact j_vret hX d_Mod_hearAck_195 rfl (Nat.le_refl _) (Nat.le_refl _) ⟨rfl, rfl, by rw [e9], rfl⟩
  have h84 : ∀ (C1 : MI) (v : Int32), ¬ ¬ C 20 (32 * s + a) < x 7 → C1 = (lnKnown C (32 * s + a) (x 5) (x 6)).2 → v = (lnKnown C (32 * s + a) (x 5) (x 6)).1 → J X K V (bk4 A B C1 D) P 0 0 84 [(0, .ref (K.ad 6 0)), (1, .int (nI s)), (2, .ref (K.aad 38)), (3, .int (nI (32 * s + a))), (4, .int v)] [] := by
    intro C1 v hv e1 e2
    rw [← e1, ← e2] at h175
    refine j_aload_n h d_Mod_hearAck_84 rfl ?_
    refine j_iconst (v := 5) h d_Mod_hearAck_85 (by decide) ?_
    refine m_iald3 (a := 38) (L := 14) (j := 5) h ms d_Mod_hearAck_86 (by decide) rfl (by decide) rfl rfl (by omega) ?_
    refine j_aload_n h d_Mod_hearAck_87 rfl ?_
    refine j_getR h d_Mod_hearAck_88 fl_Mod_50 rfl (by assumption) (mP ms (a := 23) (by decide)) ?_
    refine j_iload_n h d_Mod_hearAck_91 rfl ?_
    refine m_iald2 (a := 23) (L := 64) (j := (32 * s + a)) h ms d_Mod_hearAck_92 (by decide) rfl (by decide) rfl rfl (by omega) ?_
    refine j_ic_ne (tgt := 175) h d_Mod_hearAck_93 (by decide) (fun c1 => ?_) (fun c1 => ?_)
    · refine j_lv (lv' := [(0, .ref (K.ad 6 0)), (1, .int (nI s)), (2, .ref (K.aad 38)), (3, .int (nI (32 * s + a))), (4, .int _)]) (lvs rfl (lvs rfl (lvs rfl (lvs rfl (lvs rfl lvs0))))) ?_
      exact h175 _ _ hv (by clear h175 hX h hl e1 e2; unfold lnAck; first | (simp_all [up_rd]; done) | grind [up_rd]) (by clear h175 hX h hl e1 e2; unfold lnAck; first | (simp_all [up_rd]; done) | grind [up_rd])
    · refine j_aload_n h d_Mod_hearAck_96 rfl ?_
      refine j_getR h d_Mod_hearAck_97 fl_Mod_56 rfl (by assumption) (mP ms (a := 25) (by decide)) ?_
      refine j_iload_n h d_Mod_hearAck_100 rfl ?_
      refine m_zald2 (a := 25) (L := 64) (j := (32 * s + a)) h ms d_Mod_hearAck_101 (by decide) rfl (by decide) rfl rfl (by omega) ?_
      refine j_if_eq (tgt := 175) h d_Mod_hearAck_102 (by decide) (fun c2 => ?_) (fun c2 => ?_)
      · refine j_lv (lv' := [(0, .ref (K.ad 6 0)), (1, .int (nI s)), (2, .ref (K.aad 38)), (3, .int (nI (32 * s + a))), (4, .int _)]) (lvs rfl (lvs rfl (lvs rfl (lvs rfl (lvs rfl lvs0))))) ?_
        exact h175 _ _ hv (by clear h175 hX h hl e1 e2; unfold lnAck; first | (simp_all [up_rd]; done) | grind [up_rd]) (by clear h175 hX h hl e1 e2; unfold lnAck; first | (simp_all [up_rd]; done) | grind [up_rd])
      · refine j_aload_n h d_Mod_hearAck_105 rfl ?_
        refine j_getR h d_Mod_hearAck_106 fl_Mod_56 rfl (by assumption) (mP ms (a := 25) (by decide)) ?_
        refine j_iload_n h d_Mod_hearAck_109 rfl ?_
        refine j_iconst (v := 0) h d_Mod_hearAck_110 (by decide) ?_
        refine m_zast2 (a := 25) (L := 64) (j := (32 * s + a)) h ms d_Mod_hearAck_111 (by decide) rfl (by decide) rfl rfl (by omega) (by first | exact Or.inl rfl | exact Or.inr rfl | exact b01_z _ | assumption) ?_
        refine j_iconst (v := 1) h d_Mod_hearAck_112 (by decide) ?_
        refine j_istore h d_Mod_hearAck_113 (Nat.lt_of_lt_of_eq (m := 6) (by decide) hN.symm) ?_
        refine j_aload_n h d_Mod_hearAck_115 rfl ?_
        refine j_getR h d_Mod_hearAck_116 fl_Mod_34 rfl (by assumption) (mP ms (a := 18) (by decide)) ?_
        refine j_iload_n h d_Mod_hearAck_119 rfl ?_
        refine m_iald2 (a := 18) (L := 64) (j := (32 * s + a)) h ms d_Mod_hearAck_120 (by decide) rfl (by decide) rfl rfl (by omega) ?_
        refine j_iconst (v := 3) h d_Mod_hearAck_121 (by decide) ?_
        refine j_ic_eq (tgt := 135) h d_Mod_hearAck_122 (by decide) (fun c3 => ?_) (fun c3 => ?_)
        · refine j_aload_n h d_Mod_hearAck_135 rfl ?_
          refine j_getR h d_Mod_hearAck_136 fl_Mod_34 rfl (by assumption) (mP ms (a := 18) (by decide)) ?_
          refine j_iload_n h d_Mod_hearAck_139 rfl ?_
          refine j_aload_n h d_Mod_hearAck_140 rfl ?_
          refine j_getR h d_Mod_hearAck_141 fl_Mod_34 rfl (by assumption) (mP ms (a := 18) (by decide)) ?_
          refine j_iload_n h d_Mod_hearAck_144 rfl ?_
          refine m_iald2 (a := 18) (L := 64) (j := (32 * s + a)) h ms d_Mod_hearAck_145 (by decide) rfl (by decide) rfl rfl (by omega) ?_
          refine j_iconst (v := 3) h d_Mod_hearAck_146 (by decide) ?_
          refine j_ic_ne (tgt := 154) h d_Mod_hearAck_147 (by decide) (fun c4 => ?_) (fun c4 => ?_)
          · refine j_iconst (v := 0) h d_Mod_hearAck_154 (by decide) ?_
            refine m_iast2 (a := 18) (L := 64) (j := (32 * s + a)) h ms d_Mod_hearAck_155 (by decide) rfl (by decide) rfl rfl (by omega) ?_
            refine j_aload_n h d_Mod_hearAck_156 rfl ?_
            refine j_getR h d_Mod_hearAck_157 fl_Mod_62 rfl (by assumption) (mP ms (a := 27) (by decide)) ?_
            refine j_iload_n h d_Mod_hearAck_160 rfl ?_
            refine j_aload_n h d_Mod_hearAck_161 rfl ?_
            refine j_getR h d_Mod_hearAck_162 fl_Mod_62 rfl (by assumption) (mP ms (a := 27) (by decide)) ?_
            refine j_iload_n h d_Mod_hearAck_165 rfl ?_
            refine m_iald2 (a := 27) (L := 64) (j := (32 * s + a)) h ms d_Mod_hearAck_166 (by decide) rfl (by decide) rfl rfl (by omega) ?_
            refine j_aload_n h d_Mod_hearAck_167 rfl ?_
            refine j_bipush (v := 8) h d_Mod_hearAck_168 (by decide) ?_
            refine m_iald3 (a := 38) (L := 14) (j := 8) h ms d_Mod_hearAck_170 (by decide) rfl (by decide) rfl rfl (by omega) ?_
            refine j_callS h (c_Mod_greater _ _ _ _ _ _ _ _ _ _) d_Mod_hearAck_171 ml_Mod_150 ms_Mod_greater rfl rfl (Nat.le_of_ble_eq_true rfl) (hR_of hX (by decide) (by decide)) (hf_of hX (by decide) (by decide)) ?_
            rintro _ _ _ _ ⟨rfl, rfl, rfl, rfl⟩
            refine m_iast2 (a := 27) (L := 64) (j := (32 * s + a)) h ms d_Mod_hearAck_174 (by decide) rfl (by decide) rfl rfl (by omega) ?_
            refine j_lv (lv' := [(0, .ref (K.ad 6 0)), (1, .int (nI s)), (2, .ref (K.aad 38)), (3, .int (nI (32 * s + a))), (4, .int _)]) (lvs rfl (lvs rfl (lvs rfl (lvs rfl (lvs rfl lvs0))))) ?_
            exact h175 _ _ hv (by clear h175 hX h hl e1 e2; unfold lnAck; first | (simp_all [up_rd]; done) | grind [up_rd]) (by clear h175 hX h hl e1 e2; unfold lnAck; first | (simp_all [up_rd]; done) | grind [up_rd])
          · refine j_iconst (v := 1) h d_Mod_hearAck_150 (by decide) ?_
            refine j_goto (tgt := 155) h d_Mod_hearAck_151 (by decide) ?_
            refine m_iast2 (a := 18) (L := 64) (j := (32 * s + a)) h ms d_Mod_hearAck_155 (by decide) rfl (by decide) rfl rfl (by omega) ?_
            refine j_aload_n h d_Mod_hearAck_156 rfl ?_
            refine j_getR h d_Mod_hearAck_157 fl_Mod_62 rfl (by assumption) (mP ms (a := 27) (by decide)) ?_
            refine j_iload_n h d_Mod_hearAck_160 rfl ?_
            refine j_aload_n h d_Mod_hearAck_161 rfl ?_
            refine j_getR h d_Mod_hearAck_162 fl_Mod_62 rfl (by assumption) (mP ms (a := 27) (by decide)) ?_
            refine j_iload_n h d_Mod_hearAck_165 rfl ?_
            refine m_iald2 (a := 27) (L := 64) (j := (32 * s + a)) h ms d_Mod_hearAck_166 (by decide) rfl (by decide) rfl rfl (by omega) ?_
            refine j_aload_n h d_Mod_hearAck_167 rfl ?_
            refine j_bipush (v := 8) h d_Mod_hearAck_168 (by decide) ?_
            refine m_iald3 (a := 38) (L := 14) (j := 8) h ms d_Mod_hearAck_170 (by decide) rfl (by decide) rfl rfl (by omega) ?_
            refine j_callS h (c_Mod_greater _ _ _ _ _ _ _ _ _ _) d_Mod_hearAck_171 ml_Mod_150 ms_Mod_greater rfl rfl (Nat.le_of_ble_eq_true rfl) (hR_of hX (by decide) (by decide)) (hf_of hX (by decide) (by decide)) ?_
            rintro _ _ _ _ ⟨rfl, rfl, rfl, rfl⟩
            refine m_iast2 (a := 27) (L := 64) (j := (32 * s + a)) h ms d_Mod_hearAck_174 (by decide) rfl (by decide) rfl rfl (by omega) ?_
            refine j_lv (lv' := [(0, .ref (K.ad 6 0)), (1, .int (nI s)), (2, .ref (K.aad 38)), (3, .int (nI (32 * s + a))), (4, .int _)]) (lvs rfl (lvs rfl (lvs rfl (lvs rfl (lvs rfl lvs0))))) ?_
            exact h175 _ _ hv (by clear h175 hX h hl e1 e2; unfold lnAck; first | (simp_all [up_rd]; done) | grind [up_rd]) (by clear h175 hX h hl e1 e2; unfold lnAck; first | (simp_all [up_rd]; done) | grind [up_rd])
        · refine j_aload_n h d_Mod_hearAck_125 rfl ?_
          refine j_getR h d_Mod_hearAck_126 fl_Mod_34 rfl (by assumption) (mP ms (a := 18) (by decide)) ?_
          refine j_iload_n h d_Mod_hearAck_129 rfl ?_
          refine m_iald2 (a := 18) (L := 64) (j := (32 * s + a)) h ms d_Mod_hearAck_130 (by decide) rfl (by decide) rfl rfl (by omega) ?_
          refine j_iconst (v := 4) h d_Mod_hearAck_131 (by decide) ?_
          refine j_ic_ne (tgt := 175) h d_Mod_hearAck_132 (by decide) (fun c5 => ?_) (fun c5 => ?_)
          · refine j_lv (lv' := [(0, .ref (K.ad 6 0)), (1, .int (nI s)), (2, .ref (K.aad 38)), (3, .int (nI (32 * s + a))), (4, .int _)]) (lvs rfl (lvs rfl (lvs rfl (lvs rfl (lvs rfl lvs0))))) ?_
            exact h175 _ _ hv (by clear h175 hX h hl e1 e2; unfold lnAck; first | (simp_all [up_rd]; done) | grind [up_rd]) (by clear h175 hX h hl e1 e2; unfold lnAck; first | (simp_all [up_rd]; done) | grind [up_rd])
          · refine j_aload_n h d_Mod_hearAck_135 rfl ?_
            refine j_getR h d_Mod_hearAck_136 fl_Mod_34 rfl (by assumption) (mP ms (a := 18) (by decide)) ?_
            refine j_iload_n h d_Mod_hearAck_139 rfl ?_
            refine j_aload_n h d_Mod_hearAck_140 rfl ?_
            refine j_getR h d_Mod_hearAck_141 fl_Mod_34 rfl (by assumption) (mP ms (a := 18) (by decide)) ?_
            refine j_iload_n h d_Mod_hearAck_144 rfl ?_
            refine m_iald2 (a := 18) (L := 64) (j := (32 * s + a)) h ms d_Mod_hearAck_145 (by decide) rfl (by decide) rfl rfl (by omega) ?_
            refine j_iconst (v := 3) h d_Mod_hearAck_146 (by decide) ?_
            refine j_ic_ne (tgt := 154) h d_Mod_hearAck_147 (by decide) (fun c6 => ?_) (fun c6 => ?_)
            · refine j_iconst (v := 0) h d_Mod_hearAck_154 (by decide) ?_
              refine m_iast2 (a := 18) (L := 64) (j := (32 * s + a)) h ms d_Mod_hearAck_155 (by decide) rfl (by decide) rfl rfl (by omega) ?_
              refine j_aload_n h d_Mod_hearAck_156 rfl ?_
              refine j_getR h d_Mod_hearAck_157 fl_Mod_62 rfl (by assumption) (mP ms (a := 27) (by decide)) ?_
              refine j_iload_n h d_Mod_hearAck_160 rfl ?_
              refine j_aload_n h d_Mod_hearAck_161 rfl ?_
              refine j_getR h d_Mod_hearAck_162 fl_Mod_62 rfl (by assumption) (mP ms (a := 27) (by decide)) ?_
              refine j_iload_n h d_Mod_hearAck_165 rfl ?_
              refine m_iald2 (a := 27) (L := 64) (j := (32 * s + a)) h ms d_Mod_hearAck_166 (by decide) rfl (by decide) rfl rfl (by omega) ?_
              refine j_aload_n h d_Mod_hearAck_167 rfl ?_
              refine j_bipush (v := 8) h d_Mod_hearAck_168 (by decide) ?_
              refine m_iald3 (a := 38) (L := 14) (j := 8) h ms d_Mod_hearAck_170 (by decide) rfl (by decide) rfl rfl (by omega) ?_
              refine j_callS h (c_Mod_greater _ _ _ _ _ _ _ _ _ _) d_Mod_hearAck_171 ml_Mod_150 ms_Mod_greater rfl rfl (Nat.le_of_ble_eq_true rfl) (hR_of hX (by decide) (by decide)) (hf_of hX (by decide) (by decide)) ?_
              rintro _ _ _ _ ⟨rfl, rfl, rfl, rfl⟩
              refine m_iast2 (a := 27) (L := 64) (j := (32 * s + a)) h ms d_Mod_hearAck_174 (by decide) rfl (by decide) rfl rfl (by omega) ?_
              refine j_lv (lv' := [(0, .ref (K.ad 6 0)), (1, .int (nI s)), (2, .ref (K.aad 38)), (3, .int (nI (32 * s + a))), (4, .int _)]) (lvs rfl (lvs rfl (lvs rfl (lvs rfl (lvs rfl lvs0))))) ?_
              exact h175 _ _ hv (by clear h175 hX h hl e1 e2; unfold lnAck; first | (simp_all [up_rd]; done) | grind [up_rd]) (by clear h175 hX h hl e1 e2; unfold lnAck; first | (simp_all [up_rd]; done) | grind [up_rd])
            · refine j_iconst (v := 1) h d_Mod_hearAck_150 (by decide) ?_
              refine j_goto (tgt := 155) h d_Mod_hearAck_151 (by decide) ?_
              refine m_iast2 (a := 18) (L := 64) (j := (32 * s + a)) h ms d_Mod_hearAck_155 (by decide) rfl (by decide) rfl rfl (by omega) ?_
              refine j_aload_n h d_Mod_hearAck_156 rfl ?_
              refine j_getR h d_Mod_hearAck_157 fl_Mod_62 rfl (by assumption) (mP ms (a := 27) (by decide)) ?_
              refine j_iload_n h d_Mod_hearAck_160 rfl ?_
              refine j_aload_n h d_Mod_hearAck_161 rfl ?_
              refine j_getR h d_Mod_hearAck_162 fl_Mod_62 rfl (by assumption) (mP ms (a := 27) (by decide)) ?_
              refine j_iload_n h d_Mod_hearAck_165 rfl ?_
              refine m_iald2 (a := 27) (L := 64) (j := (32 * s + a)) h ms d_Mod_hearAck_166 (by decide) rfl (by decide) rfl rfl (by omega) ?_
              refine j_aload_n h d_Mod_hearAck_167 rfl ?_
              refine j_bipush (v := 8) h d_Mod_hearAck_168 (by decide) ?_
              refine m_iald3 (a := 38) (L := 14) (j := 8) h ms d_Mod_hearAck_170 (by decide) rfl (by decide) rfl rfl (by omega) ?_
              refine j_callS h (c_Mod_greater _ _ _ _ _ _ _ _ _ _) d_Mod_hearAck_171 ml_Mod_150 ms_Mod_greater rfl rfl (Nat.le_of_ble_eq_true rfl) (hR_of hX (by decide) (by decide)) (hf_of hX (by decide) (by decide)) ?_
              rintro _ _ _ _ ⟨rfl, rfl, rfl, rfl⟩
              refine m_iast2 (a := 27) (L := 64) (j := (32 * s + a)) h ms d_Mod_hearAck_174 (by decide) rfl (by decide) rfl rfl (by omega) ?_
              refine j_lv (lv' := [(0, .ref (K.ad 6 0)), (1, .int (nI s)), (2, .ref (K.aad 38)), (3, .int (nI (32 * s + a))), (4, .int _)]) (lvs rfl (lvs rfl (lvs rfl (lvs rfl (lvs rfl lvs0))))) ?_
              exact h175 _ _ hv (by clear h175 hX h hl e1 e2; unfold lnAck; first | (simp_all [up_rd]; done) | grind [up_rd]) (by clear h175 hX h hl e1 e2; unfold lnAck; first | (simp_all [up_rd]; done) | grind [up_rd])
  refine j_bipush (v := 32) h d_Mod_hearAck_0 (by decide) ?_
  refine j_iload_n h d_Mod_hearAck_2 rfl ?_
  refine j_imul h d_Mod_hearAck_3 ?_
  refine j_aload_n h d_Mod_hearAck_4 rfl ?_
  refine j_iconst (v := 4) h d_Mod_hearAck_5 (by decide) ?_
  refine m_iald3e (a := 38) (L := 14) (j := 4) (v := nI a) h ms d_Mod_hearAck_6 (by decide) rfl (by decide) rfl rfl (by omega) ((hrd 4 (by decide)).trans hx4) ?_
  refine j_ix32 (s := s) (a := a) h d_Mod_hearAck_7 ?_
  refine j_istore_n h d_Mod_hearAck_8 (Nat.lt_of_lt_of_eq (m := 6) (by decide) hN.symm) ?_
  refine j_aload_n h d_Mod_hearAck_9 rfl ?_
  refine j_bipush (v := 7) h d_Mod_hearAck_10 (by decide) ?_
  refine m_iald3e (a := 38) (L := 14) (j := 7) (v := x 7) h ms d_Mod_hearAck_12 (by decide) rfl (by decide) rfl rfl (by omega) (hrd 7 (by decide)) ?_
  refine j_aload_n h d_Mod_hearAck_13 rfl ?_
  refine j_getR h d_Mod_hearAck_14 fl_Mod_65 rfl (by assumption) (mP ms (a := 28) (by decide)) ?_
  refine j_iload_n h d_Mod_hearAck_17 rfl ?_
  refine m_iald2 (a := 28) (L := 64) (j := (32 * s + a)) h ms d_Mod_hearAck_18 (by decide) rfl (by decide) rfl rfl (by omega) ?_
  refine j_ic_gt (tgt := 23) h d_Mod_hearAck_19 (by decide) (fun c1 => ?_) (fun c1 => ?_)
  · refine j_iconst (v := 0) h d_Mod_hearAck_23 (by decide) ?_
    refine j_istore h d_Mod_hearAck_24 (Nat.lt_of_lt_of_eq (m := 6) (by decide) hN.symm) ?_
    refine j_aload_n h d_Mod_hearAck_26 rfl ?_
    refine j_getR h d_Mod_hearAck_27 fl_Mod_34 rfl (by assumption) (mP ms (a := 18) (by decide)) ?_
    refine j_iload_n h d_Mod_hearAck_30 rfl ?_
    refine m_iald2 (a := 18) (L := 64) (j := (32 * s + a)) h ms d_Mod_hearAck_31 (by decide) rfl (by decide) rfl rfl (by omega) ?_
    refine j_iconst (v := 2) h d_Mod_hearAck_32 (by decide) ?_
    refine j_ic_eq (tgt := 46) h d_Mod_hearAck_33 (by decide) (fun c2 => ?_) (fun c2 => ?_)
    · refine j_aload_n h d_Mod_hearAck_46 rfl ?_
      refine j_iconst (v := 5) h d_Mod_hearAck_47 (by decide) ?_
      refine m_iald3e (a := 38) (L := 14) (j := 5) (v := x 5) h ms d_Mod_hearAck_48 (by decide) rfl (by decide) rfl rfl (by omega) (hrd 5 (by decide)) ?_
      refine j_aload_n h d_Mod_hearAck_49 rfl ?_
      refine j_getR h d_Mod_hearAck_50 fl_Mod_53 rfl (by assumption) (mP ms (a := 24) (by decide)) ?_
      refine j_iload_n h d_Mod_hearAck_53 rfl ?_
      refine m_iald2 (a := 24) (L := 64) (j := (32 * s + a)) h ms d_Mod_hearAck_54 (by decide) rfl (by decide) rfl rfl (by omega) ?_
      refine j_ic_lt (tgt := 84) h d_Mod_hearAck_55 (by decide) (fun c3 => ?_) (fun c3 => ?_)
      · refine j_lv (lv' := [(0, .ref (K.ad 6 0)), (1, .int (nI s)), (2, .ref (K.aad 38)), (3, .int (nI (32 * s + a))), (4, .int _)]) (lvs rfl (lvs rfl (lvs rfl (lvs rfl (lvs rfl lvs0))))) ?_
        exact h84 _ _ (by clear h84 h175 hX h hl; first | (simp_all; done) | grind) (by clear h84 h175 hX h hl; unfold lnKnown; first | (simp_all [up_rd]; done) | grind [up_rd]) (by clear h84 h175 hX h hl; unfold lnKnown; first | (simp_all [up_rd]; done) | grind [up_rd])
      · refine j_aload_n h d_Mod_hearAck_58 rfl ?_
        refine j_bipush (v := 6) h d_Mod_hearAck_59 (by decide) ?_
        refine m_iald3e (a := 38) (L := 14) (j := 6) (v := x 6) h ms d_Mod_hearAck_61 (by decide) rfl (by decide) rfl rfl (by omega) (hrd 6 (by decide)) ?_
        refine j_aload_n h d_Mod_hearAck_62 rfl ?_
        refine j_getR h d_Mod_hearAck_63 fl_Mod_59 rfl (by assumption) (mP ms (a := 26) (by decide)) ?_
        refine j_iload_n h d_Mod_hearAck_66 rfl ?_
        refine m_iald2 (a := 26) (L := 64) (j := (32 * s + a)) h ms d_Mod_hearAck_67 (by decide) rfl (by decide) rfl rfl (by omega) ?_
        refine j_ic_le (tgt := 84) h d_Mod_hearAck_68 (by decide) (fun c4 => ?_) (fun c4 => ?_)
        · refine j_lv (lv' := [(0, .ref (K.ad 6 0)), (1, .int (nI s)), (2, .ref (K.aad 38)), (3, .int (nI (32 * s + a))), (4, .int _)]) (lvs rfl (lvs rfl (lvs rfl (lvs rfl (lvs rfl lvs0))))) ?_
          exact h84 _ _ (by clear h84 h175 hX h hl; first | (simp_all; done) | grind) (by clear h84 h175 hX h hl; unfold lnKnown; first | (simp_all [up_rd]; done) | grind [up_rd]) (by clear h84 h175 hX h hl; unfold lnKnown; first | (simp_all [up_rd]; done) | grind [up_rd])
        · refine j_aload_n h d_Mod_hearAck_71 rfl ?_
          refine j_getR h d_Mod_hearAck_72 fl_Mod_59 rfl (by assumption) (mP ms (a := 26) (by decide)) ?_
          refine j_iload_n h d_Mod_hearAck_75 rfl ?_
          refine j_aload_n h d_Mod_hearAck_76 rfl ?_
          refine j_bipush (v := 6) h d_Mod_hearAck_77 (by decide) ?_
          refine m_iald3e (a := 38) (L := 14) (j := 6) (v := x 6) h ms d_Mod_hearAck_79 (by decide) rfl (by decide) rfl rfl (by omega) (hrd 6 (by decide)) ?_
          refine m_iast2 (a := 26) (L := 64) (j := (32 * s + a)) h ms d_Mod_hearAck_80 (by decide) rfl (by decide) rfl rfl (by omega) ?_
          refine j_iconst (v := 1) h d_Mod_hearAck_81 (by decide) ?_
          refine j_istore h d_Mod_hearAck_82 (Nat.lt_of_lt_of_eq (m := 6) (by decide) hN.symm) ?_
          refine j_lv (lv' := [(0, .ref (K.ad 6 0)), (1, .int (nI s)), (2, .ref (K.aad 38)), (3, .int (nI (32 * s + a))), (4, .int _)]) (lvs rfl (lvs rfl (lvs rfl (lvs rfl (lvs rfl lvs0))))) ?_
          exact h84 _ _ (by clear h84 h175 hX h hl; first | (simp_all; done) | grind) (by clear h84 h175 hX h hl; unfold lnKnown; first | (simp_all [up_rd]; done) | grind [up_rd]) (by clear h84 h175 hX h hl; unfold lnKnown; first | (simp_all [up_rd]; done) | grind [up_rd])
    · refine j_aload_n h d_Mod_hearAck_36 rfl ?_
      refine j_getR h d_Mod_hearAck_37 fl_Mod_34 rfl (by assumption) (mP ms (a := 18) (by decide)) ?_
      refine j_iload_n h d_Mod_hearAck_40 rfl ?_
      refine m_iald2 (a := 18) (L := 64) (j := (32 * s + a)) h ms d_Mod_hearAck_41 (by decide) rfl (by decide) rfl rfl (by omega) ?_
      refine j_iconst (v := 3) h d_Mod_hearAck_42 (by decide) ?_
      refine j_ic_ne (tgt := 84) h d_Mod_hearAck_43 (by decide) (fun c5 => ?_) (fun c5 => ?_)
      · refine j_lv (lv' := [(0, .ref (K.ad 6 0)), (1, .int (nI s)), (2, .ref (K.aad 38)), (3, .int (nI (32 * s + a))), (4, .int _)]) (lvs rfl (lvs rfl (lvs rfl (lvs rfl (lvs rfl lvs0))))) ?_
        exact h84 _ _ (by clear h84 h175 hX h hl; first | (simp_all; done) | grind) (by clear h84 h175 hX h hl; unfold lnKnown; first | (simp_all [up_rd]; done) | grind [up_rd]) (by clear h84 h175 hX h hl; unfold lnKnown; first | (simp_all [up_rd]; done) | grind [up_rd])
      · refine j_aload_n h d_Mod_hearAck_46 rfl ?_
        refine j_iconst (v := 5) h d_Mod_hearAck_47 (by decide) ?_
        refine m_iald3e (a := 38) (L := 14) (j := 5) (v := x 5) h ms d_Mod_hearAck_48 (by decide) rfl (by decide) rfl rfl (by omega) (hrd 5 (by decide)) ?_
        refine j_aload_n h d_Mod_hearAck_49 rfl ?_
        refine j_getR h d_Mod_hearAck_50 fl_Mod_53 rfl (by assumption) (mP ms (a := 24) (by decide)) ?_
        refine j_iload_n h d_Mod_hearAck_53 rfl ?_
        refine m_iald2 (a := 24) (L := 64) (j := (32 * s + a)) h ms d_Mod_hearAck_54 (by decide) rfl (by decide) rfl rfl (by omega) ?_
        refine j_ic_lt (tgt := 84) h d_Mod_hearAck_55 (by decide) (fun c6 => ?_) (fun c6 => ?_)
        · refine j_lv (lv' := [(0, .ref (K.ad 6 0)), (1, .int (nI s)), (2, .ref (K.aad 38)), (3, .int (nI (32 * s + a))), (4, .int _)]) (lvs rfl (lvs rfl (lvs rfl (lvs rfl (lvs rfl lvs0))))) ?_
          exact h84 _ _ (by clear h84 h175 hX h hl; first | (simp_all; done) | grind) (by clear h84 h175 hX h hl; unfold lnKnown; first | (simp_all [up_rd]; done) | grind [up_rd]) (by clear h84 h175 hX h hl; unfold lnKnown; first | (simp_all [up_rd]; done) | grind [up_rd])
        · refine j_aload_n h d_Mod_hearAck_58 rfl ?_
          refine j_bipush (v := 6) h d_Mod_hearAck_59 (by decide) ?_
          refine m_iald3e (a := 38) (L := 14) (j := 6) (v := x 6) h ms d_Mod_hearAck_61 (by decide) rfl (by decide) rfl rfl (by omega) (hrd 6 (by decide)) ?_
          refine j_aload_n h d_Mod_hearAck_62 rfl ?_
          refine j_getR h d_Mod_hearAck_63 fl_Mod_59 rfl (by assumption) (mP ms (a := 26) (by decide)) ?_
          refine j_iload_n h d_Mod_hearAck_66 rfl ?_
          refine m_iald2 (a := 26) (L := 64) (j := (32 * s + a)) h ms d_Mod_hearAck_67 (by decide) rfl (by decide) rfl rfl (by omega) ?_
          refine j_ic_le (tgt := 84) h d_Mod_hearAck_68 (by decide) (fun c7 => ?_) (fun c7 => ?_)
          · refine j_lv (lv' := [(0, .ref (K.ad 6 0)), (1, .int (nI s)), (2, .ref (K.aad 38)), (3, .int (nI (32 * s + a))), (4, .int _)]) (lvs rfl (lvs rfl (lvs rfl (lvs rfl (lvs rfl lvs0))))) ?_
            exact h84 _ _ (by clear h84 h175 hX h hl; first | (simp_all; done) | grind) (by clear h84 h175 hX h hl; unfold lnKnown; first | (simp_all [up_rd]; done) | grind [up_rd]) (by clear h84 h175 hX h hl; unfold lnKnown; first | (simp_all [up_rd]; done) | grind [up_rd])
          · refine j_aload_n h d_Mod_hearAck_71 rfl ?_
            refine j_getR h d_Mod_hearAck_72 fl_Mod_59 rfl (by assumption) (mP ms (a := 26) (by decide)) ?_
            refine j_iload_n h d_Mod_hearAck_75 rfl ?_
            refine j_aload_n h d_Mod_hearAck_76 rfl ?_
            refine j_bipush (v := 6) h d_Mod_hearAck_77 (by decide) ?_
            refine m_iald3e (a := 38) (L := 14) (j := 6) (v := x 6) h ms d_Mod_hearAck_79 (by decide) rfl (by decide) rfl rfl (by omega) (hrd 6 (by decide)) ?_
            refine m_iast2 (a := 26) (L := 64) (j := (32 * s + a)) h ms d_Mod_hearAck_80 (by decide) rfl (by decide) rfl rfl (by omega) ?_
            refine j_iconst (v := 1) h d_Mod_hearAck_81 (by decide) ?_
            refine j_istore h d_Mod_hearAck_82 (Nat.lt_of_lt_of_eq (m := 6) (by decide) hN.symm) ?_
            refine j_lv (lv' := [(0, .ref (K.ad 6 0)), (1, .int (nI s)), (2, .ref (K.aad 38)), (3, .int (nI (32 * s + a))), (4, .int _)]) (lvs rfl (lvs rfl (lvs rfl (lvs rfl (lvs rfl lvs0))))) ?_
            exact h84 _ _ (by clear h84 h175 hX h hl; first | (simp_all; done) | grind) (by clear h84 h175 hX h hl; unfold lnKnown; first | (simp_all [up_rd]; done) | grind [up_rd]) (by clear h84 h175 hX h hl; unfold lnKnown; first | (simp_all [up_rd]; done) | grind [up_rd])
  · exact j_vret hX d_Mod_hearAck_22 rfl (Nat.le_refl _) (Nat.le_refl _) ⟨rfl, rfl, by unfold hrAck; rw [if_pos (by assumption)], rfl⟩
theorem d_Mod_takesBound_0 : decode b_Mod_takesBound 0 = .ok (.aload_n 0, 1) := by decide +kernel
theorem d_Mod_takesBound_1 : decode b_Mod_takesBound 1 = .ok (.getfield 34, 3) := by decide +kernel
theorem d_Mod_takesBound_4 : decode b_Mod_takesBound 4 = .ok (.iload_n 1, 1) := by decide +kernel
theorem d_Mod_takesBound_5 : decode b_Mod_takesBound 5 = .ok (.iaload, 1) := by decide +kernel
theorem d_Mod_takesBound_6 : decode b_Mod_takesBound 6 = .ok (.ifCond .ne 43, 3) := by decide +kernel
theorem d_Mod_takesBound_9 : decode b_Mod_takesBound 9 = .ok (.aload_n 0, 1) := by decide +kernel
theorem d_Mod_takesBound_10 : decode b_Mod_takesBound 10 = .ok (.iload_n 1, 1) := by decide +kernel
theorem d_Mod_takesBound_11 : decode b_Mod_takesBound 11 = .ok (.aload_n 2, 1) := by decide +kernel
theorem d_Mod_takesBound_12 : decode b_Mod_takesBound 12 = .ok (.bipush 9, 2) := by decide +kernel
theorem d_Mod_takesBound_14 : decode b_Mod_takesBound 14 = .ok (.iaload, 1) := by decide +kernel
theorem d_Mod_takesBound_15 : decode b_Mod_takesBound 15 = .ok (.aload_n 2, 1) := by decide +kernel
theorem d_Mod_takesBound_16 : decode b_Mod_takesBound 16 = .ok (.bipush 6, 2) := by decide +kernel
theorem d_Mod_takesBound_18 : decode b_Mod_takesBound 18 = .ok (.iaload, 1) := by decide +kernel
theorem d_Mod_takesBound_19 : decode b_Mod_takesBound 19 = .ok (.aload_n 2, 1) := by decide +kernel
theorem d_Mod_takesBound_20 : decode b_Mod_takesBound 20 = .ok (.bipush 10, 2) := by decide +kernel
theorem d_Mod_takesBound_22 : decode b_Mod_takesBound 22 = .ok (.iaload, 1) := by decide +kernel
theorem d_Mod_takesBound_23 : decode b_Mod_takesBound 23 = .ok (.invokevirtual 143, 3) := by decide +kernel
theorem d_Mod_takesBound_26 : decode b_Mod_takesBound 26 = .ok (.aload_n 0, 1) := by decide +kernel
theorem d_Mod_takesBound_27 : decode b_Mod_takesBound 27 = .ok (.getfield 53, 3) := by decide +kernel
theorem d_Mod_takesBound_30 : decode b_Mod_takesBound 30 = .ok (.iload_n 1, 1) := by decide +kernel
theorem d_Mod_takesBound_31 : decode b_Mod_takesBound 31 = .ok (.aload_n 0, 1) := by decide +kernel
theorem d_Mod_takesBound_32 : decode b_Mod_takesBound 32 = .ok (.getfield 50, 3) := by decide +kernel
theorem d_Mod_takesBound_35 : decode b_Mod_takesBound 35 = .ok (.iload_n 1, 1) := by decide +kernel
theorem d_Mod_takesBound_36 : decode b_Mod_takesBound 36 = .ok (.iaload, 1) := by decide +kernel
theorem d_Mod_takesBound_37 : decode b_Mod_takesBound 37 = .ok (.iconst 1, 1) := by decide +kernel
theorem d_Mod_takesBound_38 : decode b_Mod_takesBound 38 = .ok (.iadd, 1) := by decide +kernel
theorem d_Mod_takesBound_39 : decode b_Mod_takesBound 39 = .ok (.iastore, 1) := by decide +kernel
theorem d_Mod_takesBound_40 : decode b_Mod_takesBound 40 = .ok (.aload_n 0, 1) := by decide +kernel
theorem d_Mod_takesBound_41 : decode b_Mod_takesBound 41 = .ok (.getfield 56, 3) := by decide +kernel
theorem d_Mod_takesBound_44 : decode b_Mod_takesBound 44 = .ok (.iload_n 1, 1) := by decide +kernel
theorem d_Mod_takesBound_45 : decode b_Mod_takesBound 45 = .ok (.iconst 0, 1) := by decide +kernel
theorem d_Mod_takesBound_46 : decode b_Mod_takesBound 46 = .ok (.bastore, 1) := by decide +kernel
theorem d_Mod_takesBound_47 : decode b_Mod_takesBound 47 = .ok (.iconst 1, 1) := by decide +kernel
theorem d_Mod_takesBound_48 : decode b_Mod_takesBound 48 = .ok (.ireturn, 1) := by decide +kernel
theorem d_Mod_takesBound_49 : decode b_Mod_takesBound 49 = .ok (.iload_n 3, 1) := by decide +kernel
theorem d_Mod_takesBound_50 : decode b_Mod_takesBound 50 = .ok (.ifCond .eq 23, 3) := by decide +kernel
theorem d_Mod_takesBound_53 : decode b_Mod_takesBound 53 = .ok (.aload_n 0, 1) := by decide +kernel
theorem d_Mod_takesBound_54 : decode b_Mod_takesBound 54 = .ok (.getfield 34, 3) := by decide +kernel
theorem d_Mod_takesBound_57 : decode b_Mod_takesBound 57 = .ok (.iload_n 1, 1) := by decide +kernel
theorem d_Mod_takesBound_58 : decode b_Mod_takesBound 58 = .ok (.iaload, 1) := by decide +kernel
theorem d_Mod_takesBound_59 : decode b_Mod_takesBound 59 = .ok (.iconst 2, 1) := by decide +kernel
theorem d_Mod_takesBound_60 : decode b_Mod_takesBound 60 = .ok (.if_icmp .eq 15, 3) := by decide +kernel
theorem d_Mod_takesBound_63 : decode b_Mod_takesBound 63 = .ok (.aload_n 0, 1) := by decide +kernel
theorem d_Mod_takesBound_64 : decode b_Mod_takesBound 64 = .ok (.getfield 34, 3) := by decide +kernel
theorem d_Mod_takesBound_67 : decode b_Mod_takesBound 67 = .ok (.iload_n 1, 1) := by decide +kernel
theorem d_Mod_takesBound_68 : decode b_Mod_takesBound 68 = .ok (.iaload, 1) := by decide +kernel
theorem d_Mod_takesBound_69 : decode b_Mod_takesBound 69 = .ok (.iconst 3, 1) := by decide +kernel
theorem d_Mod_takesBound_70 : decode b_Mod_takesBound 70 = .ok (.if_icmp .eq 5, 3) := by decide +kernel
theorem d_Mod_takesBound_73 : decode b_Mod_takesBound 73 = .ok (.iconst 0, 1) := by decide +kernel
theorem d_Mod_takesBound_74 : decode b_Mod_takesBound 74 = .ok (.ireturn, 1) := by decide +kernel
theorem d_Mod_takesBound_75 : decode b_Mod_takesBound 75 = .ok (.aload_n 0, 1) := by decide +kernel
theorem d_Mod_takesBound_76 : decode b_Mod_takesBound 76 = .ok (.getfield 34, 3) := by decide +kernel
theorem d_Mod_takesBound_79 : decode b_Mod_takesBound 79 = .ok (.iload_n 1, 1) := by decide +kernel
theorem d_Mod_takesBound_80 : decode b_Mod_takesBound 80 = .ok (.iaload, 1) := by decide +kernel
theorem d_Mod_takesBound_81 : decode b_Mod_takesBound 81 = .ok (.iconst 3, 1) := by decide +kernel
theorem d_Mod_takesBound_82 : decode b_Mod_takesBound 82 = .ok (.if_icmp .ne 42, 3) := by decide +kernel
theorem d_Mod_takesBound_85 : decode b_Mod_takesBound 85 = .ok (.aload_n 2, 1) := by decide +kernel
theorem d_Mod_takesBound_86 : decode b_Mod_takesBound 86 = .ok (.bipush 10, 2) := by decide +kernel
theorem d_Mod_takesBound_88 : decode b_Mod_takesBound 88 = .ok (.iaload, 1) := by decide +kernel
theorem d_Mod_takesBound_89 : decode b_Mod_takesBound 89 = .ok (.aload_n 0, 1) := by decide +kernel
theorem d_Mod_takesBound_90 : decode b_Mod_takesBound 90 = .ok (.getfield 43, 3) := by decide +kernel
theorem d_Mod_takesBound_93 : decode b_Mod_takesBound 93 = .ok (.iload_n 1, 1) := by decide +kernel
theorem d_Mod_takesBound_94 : decode b_Mod_takesBound 94 = .ok (.iaload, 1) := by decide +kernel
theorem d_Mod_takesBound_95 : decode b_Mod_takesBound 95 = .ok (.if_icmp .gt 25, 3) := by decide +kernel
theorem d_Mod_takesBound_98 : decode b_Mod_takesBound 98 = .ok (.aload_n 2, 1) := by decide +kernel
theorem d_Mod_takesBound_99 : decode b_Mod_takesBound 99 = .ok (.bipush 6, 2) := by decide +kernel
theorem d_Mod_takesBound_101 : decode b_Mod_takesBound 101 = .ok (.iaload, 1) := by decide +kernel
theorem d_Mod_takesBound_102 : decode b_Mod_takesBound 102 = .ok (.aload_n 0, 1) := by decide +kernel
theorem d_Mod_takesBound_103 : decode b_Mod_takesBound 103 = .ok (.getfield 40, 3) := by decide +kernel
theorem d_Mod_takesBound_106 : decode b_Mod_takesBound 106 = .ok (.iload_n 1, 1) := by decide +kernel
theorem d_Mod_takesBound_107 : decode b_Mod_takesBound 107 = .ok (.iaload, 1) := by decide +kernel
theorem d_Mod_takesBound_108 : decode b_Mod_takesBound 108 = .ok (.if_icmp .le 16, 3) := by decide +kernel
theorem d_Mod_takesBound_111 : decode b_Mod_takesBound 111 = .ok (.aload_n 0, 1) := by decide +kernel
theorem d_Mod_takesBound_112 : decode b_Mod_takesBound 112 = .ok (.getfield 46, 3) := by decide +kernel
theorem d_Mod_takesBound_115 : decode b_Mod_takesBound 115 = .ok (.iload_n 1, 1) := by decide +kernel
theorem d_Mod_takesBound_116 : decode b_Mod_takesBound 116 = .ok (.baload, 1) := by decide +kernel
theorem d_Mod_takesBound_117 : decode b_Mod_takesBound 117 = .ok (.ifCond .ne 7, 3) := by decide +kernel
theorem d_Mod_takesBound_120 : decode b_Mod_takesBound 120 = .ok (.iconst 1, 1) := by decide +kernel
theorem d_Mod_takesBound_121 : decode b_Mod_takesBound 121 = .ok (.goto 4, 3) := by decide +kernel
theorem d_Mod_takesBound_124 : decode b_Mod_takesBound 124 = .ok (.iconst 0, 1) := by decide +kernel
theorem d_Mod_takesBound_125 : decode b_Mod_takesBound 125 = .ok (.istore 4, 2) := by decide +kernel
theorem d_Mod_takesBound_127 : decode b_Mod_takesBound 127 = .ok (.aload_n 0, 1) := by decide +kernel
theorem d_Mod_takesBound_128 : decode b_Mod_takesBound 128 = .ok (.getfield 40, 3) := by decide +kernel
theorem d_Mod_takesBound_131 : decode b_Mod_takesBound 131 = .ok (.iload_n 1, 1) := by decide +kernel
theorem d_Mod_takesBound_132 : decode b_Mod_takesBound 132 = .ok (.aload_n 0, 1) := by decide +kernel
theorem d_Mod_takesBound_133 : decode b_Mod_takesBound 133 = .ok (.getfield 40, 3) := by decide +kernel
theorem d_Mod_takesBound_136 : decode b_Mod_takesBound 136 = .ok (.iload_n 1, 1) := by decide +kernel
theorem d_Mod_takesBound_137 : decode b_Mod_takesBound 137 = .ok (.iaload, 1) := by decide +kernel
theorem d_Mod_takesBound_138 : decode b_Mod_takesBound 138 = .ok (.aload_n 2, 1) := by decide +kernel
theorem d_Mod_takesBound_139 : decode b_Mod_takesBound 139 = .ok (.bipush 6, 2) := by decide +kernel
theorem d_Mod_takesBound_141 : decode b_Mod_takesBound 141 = .ok (.iaload, 1) := by decide +kernel
theorem d_Mod_takesBound_142 : decode b_Mod_takesBound 142 = .ok (.invokestatic 150, 3) := by decide +kernel
theorem d_Mod_takesBound_145 : decode b_Mod_takesBound 145 = .ok (.iastore, 1) := by decide +kernel
theorem d_Mod_takesBound_146 : decode b_Mod_takesBound 146 = .ok (.aload_n 0, 1) := by decide +kernel
theorem d_Mod_takesBound_147 : decode b_Mod_takesBound 147 = .ok (.getfield 34, 3) := by decide +kernel
theorem d_Mod_takesBound_150 : decode b_Mod_takesBound 150 = .ok (.iload_n 1, 1) := by decide +kernel
theorem d_Mod_takesBound_151 : decode b_Mod_takesBound 151 = .ok (.iaload, 1) := by decide +kernel
theorem d_Mod_takesBound_152 : decode b_Mod_takesBound 152 = .ok (.iconst 2, 1) := by decide +kernel
theorem d_Mod_takesBound_153 : decode b_Mod_takesBound 153 = .ok (.if_icmp .eq 8, 3) := by decide +kernel
theorem d_Mod_takesBound_156 : decode b_Mod_takesBound 156 = .ok (.iload 4, 2) := by decide +kernel
theorem d_Mod_takesBound_158 : decode b_Mod_takesBound 158 = .ok (.ifCond .eq 22, 3) := by decide +kernel
theorem d_Mod_takesBound_161 : decode b_Mod_takesBound 161 = .ok (.aload_n 0, 1) := by decide +kernel
theorem d_Mod_takesBound_162 : decode b_Mod_takesBound 162 = .ok (.getfield 43, 3) := by decide +kernel
theorem d_Mod_takesBound_165 : decode b_Mod_takesBound 165 = .ok (.iload_n 1, 1) := by decide +kernel
theorem d_Mod_takesBound_166 : decode b_Mod_takesBound 166 = .ok (.aload_n 0, 1) := by decide +kernel
theorem d_Mod_takesBound_167 : decode b_Mod_takesBound 167 = .ok (.getfield 43, 3) := by decide +kernel
theorem d_Mod_takesBound_170 : decode b_Mod_takesBound 170 = .ok (.iload_n 1, 1) := by decide +kernel
theorem d_Mod_takesBound_171 : decode b_Mod_takesBound 171 = .ok (.iaload, 1) := by decide +kernel
theorem d_Mod_takesBound_172 : decode b_Mod_takesBound 172 = .ok (.aload_n 2, 1) := by decide +kernel
theorem d_Mod_takesBound_173 : decode b_Mod_takesBound 173 = .ok (.bipush 10, 2) := by decide +kernel
theorem d_Mod_takesBound_175 : decode b_Mod_takesBound 175 = .ok (.iaload, 1) := by decide +kernel
theorem d_Mod_takesBound_176 : decode b_Mod_takesBound 176 = .ok (.invokestatic 150, 3) := by decide +kernel
theorem d_Mod_takesBound_179 : decode b_Mod_takesBound 179 = .ok (.iastore, 1) := by decide +kernel
theorem d_Mod_takesBound_180 : decode b_Mod_takesBound 180 = .ok (.iload 4, 2) := by decide +kernel
theorem d_Mod_takesBound_182 : decode b_Mod_takesBound 182 = .ok (.ifCond .eq 22, 3) := by decide +kernel
theorem d_Mod_takesBound_185 : decode b_Mod_takesBound 185 = .ok (.aload_n 0, 1) := by decide +kernel
theorem d_Mod_takesBound_186 : decode b_Mod_takesBound 186 = .ok (.getfield 34, 3) := by decide +kernel
theorem d_Mod_takesBound_189 : decode b_Mod_takesBound 189 = .ok (.iload_n 1, 1) := by decide +kernel
theorem d_Mod_takesBound_190 : decode b_Mod_takesBound 190 = .ok (.iconst 2, 1) := by decide +kernel
theorem d_Mod_takesBound_191 : decode b_Mod_takesBound 191 = .ok (.iastore, 1) := by decide +kernel
theorem d_Mod_takesBound_192 : decode b_Mod_takesBound 192 = .ok (.aload_n 0, 1) := by decide +kernel
theorem d_Mod_takesBound_193 : decode b_Mod_takesBound 193 = .ok (.getfield 46, 3) := by decide +kernel
theorem d_Mod_takesBound_196 : decode b_Mod_takesBound 196 = .ok (.iload_n 1, 1) := by decide +kernel
theorem d_Mod_takesBound_197 : decode b_Mod_takesBound 197 = .ok (.iconst 0, 1) := by decide +kernel
theorem d_Mod_takesBound_198 : decode b_Mod_takesBound 198 = .ok (.bastore, 1) := by decide +kernel
theorem d_Mod_takesBound_199 : decode b_Mod_takesBound 199 = .ok (.aload_n 0, 1) := by decide +kernel
theorem d_Mod_takesBound_200 : decode b_Mod_takesBound 200 = .ok (.iload_n 1, 1) := by decide +kernel
theorem d_Mod_takesBound_201 : decode b_Mod_takesBound 201 = .ok (.invokevirtual 140, 3) := by decide +kernel
theorem d_Mod_takesBound_204 : decode b_Mod_takesBound 204 = .ok (.iconst 1, 1) := by decide +kernel
theorem d_Mod_takesBound_205 : decode b_Mod_takesBound 205 = .ok (.ireturn, 1) := by decide +kernel
set_option maxRecDepth 100000 in
set_option maxHeartbeats 4000000 in
theorem c_Mod_takesBound (l : Launch) (K : Kx) (V : Vx) (A B C D : MI) (P : MP) (ms : MSt K V P) (r : Nat) (hr : r < 64) (x : Msg) (hrd : ∀ w, w < 14 → D 75 w = x w) : Ct l K md_Mod_takesBound (1, 24) 0 0 [.ref (K.ad 6 0), .int (nI r), .ref (K.aad 38), .int (b01 (C 11 r = x 9))] V (bk4 A B C D) P (EQ V (some (.int (tkBound C r (x 9) (x 6) (x 10)).1)) (bk4 A B (tkBound C r (x 9) (x 6) (x 10)).2 D) P) := by
  refine ct_of [(0, .ref (K.ad 6 0)), (1, .int (nI r)), (2, .ref (K.aad 38)), (3, .int (b01 (C 11 r = x 9)))] (by decide) (Nat.le_of_ble_eq_true rfl) (ca_r (ca_i (ca_r (ca_i ca_n)))) rfl ?_
  intro X hl hX
  have h : OkX X b_Mod_takesBound R_Mod K := hX.1
  have hN : X.nL = 5 := hX.2.1
  have hmv := ms.1
  have h125 : ∀ v : Int32, C 11 r = x 9 → ((C 10 r = 2 ∧ v = 0) ∨ (C 10 r = 3 ∧ v = 0 ∧ ¬ (C 13 r < x 10 ∨ (¬ x 6 ≤ C 12 r ∧ C 14 r = 0))) ∨ (C 10 r = 3 ∧ v = 1 ∧ (C 13 r < x 10 ∨ (¬ x 6 ≤ C 12 r ∧ C 14 r = 0)))) → J X K V (bk4 A B C D) P 0 0 127 [(0, .ref (K.ad 6 0)), (1, .int (nI r)), (2, .ref (K.aad 38)), (3, .int (b01 (C 11 r = x 9))), (4, .int v)] [] := by
    intro v hc hv
    rcases hv with ⟨hk, rfl⟩ | ⟨hk, rfl, hq⟩ | ⟨hk, rfl, hq⟩
    · have hE : (tkBound C r (x 9) (x 6) (x 10)) = (1, up (up C 13 r (gr (C 13 r) (x 10))) 12 r (gr (C 12 r) (x 6))) := by
        unfold tkBound
        rw [if_neg (by rw [hk]; decide), if_neg (by rintro (q | q); exact q hc; exact q.1 hk), if_pos hk]
      refine j_aload_n h d_Mod_takesBound_127 rfl ?_
      refine j_getR h d_Mod_takesBound_128 fl_Mod_40 rfl (by assumption) (mP ms (a := 20) (by decide)) ?_
      refine j_iload_n h d_Mod_takesBound_131 rfl ?_
      refine j_aload_n h d_Mod_takesBound_132 rfl ?_
      refine j_getR h d_Mod_takesBound_133 fl_Mod_40 rfl (by assumption) (mP ms (a := 20) (by decide)) ?_
      refine j_iload_n h d_Mod_takesBound_136 rfl ?_
      refine m_iald2 (a := 20) (L := 64) (j := r) h ms d_Mod_takesBound_137 (by decide) rfl (by decide) rfl rfl (by omega) ?_
      refine j_aload_n h d_Mod_takesBound_138 rfl ?_
      refine j_bipush (v := 6) h d_Mod_takesBound_139 (by decide) ?_
      refine m_iald3e (a := 38) (L := 14) (j := 6) (v := x 6) h ms d_Mod_takesBound_141 (by decide) rfl (by decide) rfl rfl (by omega) (hrd 6 (by decide)) ?_
      refine j_callS h (c_Mod_greater _ _ _ _ _ _ _ _ _ _) d_Mod_takesBound_142 ml_Mod_150 ms_Mod_greater rfl rfl (Nat.le_of_ble_eq_true rfl) (hR_of hX (by decide) (by decide)) (hf_of hX (by decide) (by decide)) ?_
      rintro _ _ _ _ ⟨rfl, rfl, rfl, rfl⟩
      refine m_iast2 (a := 20) (L := 64) (j := r) h ms d_Mod_takesBound_145 (by decide) rfl (by decide) rfl rfl (by omega) ?_
      refine j_aload_n h d_Mod_takesBound_146 rfl ?_
      refine j_getR h d_Mod_takesBound_147 fl_Mod_34 rfl (by assumption) (mP ms (a := 18) (by decide)) ?_
      refine j_iload_n h d_Mod_takesBound_150 rfl ?_
      refine m_iald2 (a := 18) (L := 64) (j := r) h ms d_Mod_takesBound_151 (by decide) rfl (by decide) rfl rfl (by omega) ?_
      refine j_iconst (v := 2) h d_Mod_takesBound_152 (by decide) ?_
      refine j_ic_eq (tgt := 161) h d_Mod_takesBound_153 (by decide) (fun c => ?_) (fun c => absurd hk c)
      refine j_aload_n h d_Mod_takesBound_161 rfl ?_
      refine j_getR h d_Mod_takesBound_162 fl_Mod_43 rfl (by assumption) (mP ms (a := 21) (by decide)) ?_
      refine j_iload_n h d_Mod_takesBound_165 rfl ?_
      refine j_aload_n h d_Mod_takesBound_166 rfl ?_
      refine j_getR h d_Mod_takesBound_167 fl_Mod_43 rfl (by assumption) (mP ms (a := 21) (by decide)) ?_
      refine j_iload_n h d_Mod_takesBound_170 rfl ?_
      refine m_iald2 (a := 21) (L := 64) (j := r) h ms d_Mod_takesBound_171 (by decide) rfl (by decide) rfl rfl (by omega) ?_
      refine j_aload_n h d_Mod_takesBound_172 rfl ?_
      refine j_bipush (v := 10) h d_Mod_takesBound_173 (by decide) ?_
      refine m_iald3e (a := 38) (L := 14) (j := 10) (v := x 10) h ms d_Mod_takesBound_175 (by decide) rfl (by decide) rfl rfl (by omega) (hrd 10 (by decide)) ?_
      refine j_callS h (c_Mod_greater _ _ _ _ _ _ _ _ _ _) d_Mod_takesBound_176 ml_Mod_150 ms_Mod_greater rfl rfl (Nat.le_of_ble_eq_true rfl) (hR_of hX (by decide) (by decide)) (hf_of hX (by decide) (by decide)) ?_
      rintro _ _ _ _ ⟨rfl, rfl, rfl, rfl⟩
      refine m_iast2 (a := 21) (L := 64) (j := r) h ms d_Mod_takesBound_179 (by decide) rfl (by decide) rfl rfl (by omega) ?_
      refine j_iload h d_Mod_takesBound_180 rfl ?_
      refine j_if_eq (tgt := 204) h d_Mod_takesBound_182 (by decide) (fun c1 => ?_) (fun c1 => absurd c1 (by decide))
      refine j_iconst (v := 1) h d_Mod_takesBound_204 (by decide) ?_
      exact j_zret hX d_Mod_takesBound_205 rfl (by first | exact Or.inl rfl | exact Or.inr rfl | exact b01_z _ | assumption) (Nat.le_refl _) (Nat.le_refl _) ⟨rfl, by rw [hE], by rw [hE]; first | done | (clear hX h hl; exact bkC (by intro cc ii; simp only [chgTo, chg, up_rd]; grind)), rfl⟩
    · have hE : (tkBound C r (x 9) (x 6) (x 10)) = (1, up C 12 r (gr (C 12 r) (x 6))) := by
        unfold tkBound
        rw [if_neg (by rw [hk]; decide), if_neg (by rintro (q | q); exact q hc; exact q.2 hk), if_neg (by rw [hk]; decide), if_neg hq]
      refine j_aload_n h d_Mod_takesBound_127 rfl ?_
      refine j_getR h d_Mod_takesBound_128 fl_Mod_40 rfl (by assumption) (mP ms (a := 20) (by decide)) ?_
      refine j_iload_n h d_Mod_takesBound_131 rfl ?_
      refine j_aload_n h d_Mod_takesBound_132 rfl ?_
      refine j_getR h d_Mod_takesBound_133 fl_Mod_40 rfl (by assumption) (mP ms (a := 20) (by decide)) ?_
      refine j_iload_n h d_Mod_takesBound_136 rfl ?_
      refine m_iald2 (a := 20) (L := 64) (j := r) h ms d_Mod_takesBound_137 (by decide) rfl (by decide) rfl rfl (by omega) ?_
      refine j_aload_n h d_Mod_takesBound_138 rfl ?_
      refine j_bipush (v := 6) h d_Mod_takesBound_139 (by decide) ?_
      refine m_iald3e (a := 38) (L := 14) (j := 6) (v := x 6) h ms d_Mod_takesBound_141 (by decide) rfl (by decide) rfl rfl (by omega) (hrd 6 (by decide)) ?_
      refine j_callS h (c_Mod_greater _ _ _ _ _ _ _ _ _ _) d_Mod_takesBound_142 ml_Mod_150 ms_Mod_greater rfl rfl (Nat.le_of_ble_eq_true rfl) (hR_of hX (by decide) (by decide)) (hf_of hX (by decide) (by decide)) ?_
      rintro _ _ _ _ ⟨rfl, rfl, rfl, rfl⟩
      refine m_iast2 (a := 20) (L := 64) (j := r) h ms d_Mod_takesBound_145 (by decide) rfl (by decide) rfl rfl (by omega) ?_
      refine j_aload_n h d_Mod_takesBound_146 rfl ?_
      refine j_getR h d_Mod_takesBound_147 fl_Mod_34 rfl (by assumption) (mP ms (a := 18) (by decide)) ?_
      refine j_iload_n h d_Mod_takesBound_150 rfl ?_
      refine m_iald2 (a := 18) (L := 64) (j := r) h ms d_Mod_takesBound_151 (by decide) rfl (by decide) rfl rfl (by omega) ?_
      refine j_iconst (v := 2) h d_Mod_takesBound_152 (by decide) ?_
      refine j_ic_eq (tgt := 161) h d_Mod_takesBound_153 (by decide) (fun c => absurd (hk.symm.trans c) (by decide)) (fun c => ?_)
      refine j_iload h d_Mod_takesBound_156 rfl ?_
      refine j_if_eq (tgt := 180) h d_Mod_takesBound_158 (by decide) (fun c1 => ?_) (fun c1 => absurd c1 (by decide))
      refine j_iload h d_Mod_takesBound_180 rfl ?_
      refine j_if_eq (tgt := 204) h d_Mod_takesBound_182 (by decide) (fun c2 => ?_) (fun c2 => absurd c2 (by decide))
      refine j_iconst (v := 1) h d_Mod_takesBound_204 (by decide) ?_
      exact j_zret hX d_Mod_takesBound_205 rfl (by first | exact Or.inl rfl | exact Or.inr rfl | exact b01_z _ | assumption) (Nat.le_refl _) (Nat.le_refl _) ⟨rfl, by rw [hE], by rw [hE]; first | done | (clear hX h hl; exact bkC (by intro cc ii; simp only [chgTo, chg, up_rd]; grind)), rfl⟩
    · have hE : (tkBound C r (x 9) (x 6) (x 10)) = (1, up (chgTo (up (up C 13 r (gr (C 13 r) (x 10))) 14 r 0) r 2) 12 r (gr (C 12 r) (x 6))) := by
        unfold tkBound
        rw [if_neg (by rw [hk]; decide), if_neg (by rintro (q | q); exact q hc; exact q.2 hk), if_neg (by rw [hk]; decide), if_pos hq]
      refine j_aload_n h d_Mod_takesBound_127 rfl ?_
      refine j_getR h d_Mod_takesBound_128 fl_Mod_40 rfl (by assumption) (mP ms (a := 20) (by decide)) ?_
      refine j_iload_n h d_Mod_takesBound_131 rfl ?_
      refine j_aload_n h d_Mod_takesBound_132 rfl ?_
      refine j_getR h d_Mod_takesBound_133 fl_Mod_40 rfl (by assumption) (mP ms (a := 20) (by decide)) ?_
      refine j_iload_n h d_Mod_takesBound_136 rfl ?_
      refine m_iald2 (a := 20) (L := 64) (j := r) h ms d_Mod_takesBound_137 (by decide) rfl (by decide) rfl rfl (by omega) ?_
      refine j_aload_n h d_Mod_takesBound_138 rfl ?_
      refine j_bipush (v := 6) h d_Mod_takesBound_139 (by decide) ?_
      refine m_iald3e (a := 38) (L := 14) (j := 6) (v := x 6) h ms d_Mod_takesBound_141 (by decide) rfl (by decide) rfl rfl (by omega) (hrd 6 (by decide)) ?_
      refine j_callS h (c_Mod_greater _ _ _ _ _ _ _ _ _ _) d_Mod_takesBound_142 ml_Mod_150 ms_Mod_greater rfl rfl (Nat.le_of_ble_eq_true rfl) (hR_of hX (by decide) (by decide)) (hf_of hX (by decide) (by decide)) ?_
      rintro _ _ _ _ ⟨rfl, rfl, rfl, rfl⟩
      refine m_iast2 (a := 20) (L := 64) (j := r) h ms d_Mod_takesBound_145 (by decide) rfl (by decide) rfl rfl (by omega) ?_
      refine j_aload_n h d_Mod_takesBound_146 rfl ?_
      refine j_getR h d_Mod_takesBound_147 fl_Mod_34 rfl (by assumption) (mP ms (a := 18) (by decide)) ?_
      refine j_iload_n h d_Mod_takesBound_150 rfl ?_
      refine m_iald2 (a := 18) (L := 64) (j := r) h ms d_Mod_takesBound_151 (by decide) rfl (by decide) rfl rfl (by omega) ?_
      refine j_iconst (v := 2) h d_Mod_takesBound_152 (by decide) ?_
      refine j_ic_eq (tgt := 161) h d_Mod_takesBound_153 (by decide) (fun c => absurd (hk.symm.trans c) (by decide)) (fun c => ?_)
      refine j_iload h d_Mod_takesBound_156 rfl ?_
      refine j_if_eq (tgt := 180) h d_Mod_takesBound_158 (by decide) (fun c1 => absurd c1 (by decide)) (fun c1 => ?_)
      refine j_aload_n h d_Mod_takesBound_161 rfl ?_
      refine j_getR h d_Mod_takesBound_162 fl_Mod_43 rfl (by assumption) (mP ms (a := 21) (by decide)) ?_
      refine j_iload_n h d_Mod_takesBound_165 rfl ?_
      refine j_aload_n h d_Mod_takesBound_166 rfl ?_
      refine j_getR h d_Mod_takesBound_167 fl_Mod_43 rfl (by assumption) (mP ms (a := 21) (by decide)) ?_
      refine j_iload_n h d_Mod_takesBound_170 rfl ?_
      refine m_iald2 (a := 21) (L := 64) (j := r) h ms d_Mod_takesBound_171 (by decide) rfl (by decide) rfl rfl (by omega) ?_
      refine j_aload_n h d_Mod_takesBound_172 rfl ?_
      refine j_bipush (v := 10) h d_Mod_takesBound_173 (by decide) ?_
      refine m_iald3e (a := 38) (L := 14) (j := 10) (v := x 10) h ms d_Mod_takesBound_175 (by decide) rfl (by decide) rfl rfl (by omega) (hrd 10 (by decide)) ?_
      refine j_callS h (c_Mod_greater _ _ _ _ _ _ _ _ _ _) d_Mod_takesBound_176 ml_Mod_150 ms_Mod_greater rfl rfl (Nat.le_of_ble_eq_true rfl) (hR_of hX (by decide) (by decide)) (hf_of hX (by decide) (by decide)) ?_
      rintro _ _ _ _ ⟨rfl, rfl, rfl, rfl⟩
      refine m_iast2 (a := 21) (L := 64) (j := r) h ms d_Mod_takesBound_179 (by decide) rfl (by decide) rfl rfl (by omega) ?_
      refine j_iload h d_Mod_takesBound_180 rfl ?_
      refine j_if_eq (tgt := 204) h d_Mod_takesBound_182 (by decide) (fun c2 => absurd c2 (by decide)) (fun c2 => ?_)
      refine j_aload_n h d_Mod_takesBound_185 rfl ?_
      refine j_getR h d_Mod_takesBound_186 fl_Mod_34 rfl (by assumption) (mP ms (a := 18) (by decide)) ?_
      refine j_iload_n h d_Mod_takesBound_189 rfl ?_
      refine j_iconst (v := 2) h d_Mod_takesBound_190 (by decide) ?_
      refine m_iast2 (a := 18) (L := 64) (j := r) h ms d_Mod_takesBound_191 (by decide) rfl (by decide) rfl rfl (by omega) ?_
      refine j_aload_n h d_Mod_takesBound_192 rfl ?_
      refine j_getR h d_Mod_takesBound_193 fl_Mod_46 rfl (by assumption) (mP ms (a := 22) (by decide)) ?_
      refine j_iload_n h d_Mod_takesBound_196 rfl ?_
      refine j_iconst (v := 0) h d_Mod_takesBound_197 (by decide) ?_
      refine m_zast2 (a := 22) (L := 64) (j := r) h ms d_Mod_takesBound_198 (by decide) rfl (by decide) rfl rfl (by omega) (by first | exact Or.inl rfl | exact Or.inr rfl | exact b01_z _ | assumption) ?_
      refine j_aload_n h d_Mod_takesBound_199 rfl ?_
      refine j_iload_n h d_Mod_takesBound_200 rfl ?_
      refine j_callV h (c_Mod_change _ _ _ _ _ _ _ _ ms _ (by omega)) d_Mod_takesBound_201 ml_Mod_140 mv_Mod_change (by assumption) ⟨rfl, rfl⟩ rfl rfl (Nat.le_of_ble_eq_true rfl) (hR_of hX (by decide) (by decide)) (hf_of hX (by decide) (by decide)) ?_
      rintro _ _ _ _ ⟨rfl, rfl, rfl, rfl⟩
      refine j_iconst (v := 1) h d_Mod_takesBound_204 (by decide) ?_
      exact j_zret hX d_Mod_takesBound_205 rfl (by first | exact Or.inl rfl | exact Or.inr rfl | exact b01_z _ | assumption) (Nat.le_refl _) (Nat.le_refl _) ⟨rfl, by rw [hE], by rw [hE]; first | done | (clear hX h hl; exact bkC (by intro cc ii; simp only [chgTo, chg, up_rd]; grind)), rfl⟩
  refine j_aload_n h d_Mod_takesBound_0 rfl ?_
  refine j_getR h d_Mod_takesBound_1 fl_Mod_34 rfl (by assumption) (mP ms (a := 18) (by decide)) ?_
  refine j_iload_n h d_Mod_takesBound_4 rfl ?_
  refine m_iald2 (a := 18) (L := 64) (j := r) h ms d_Mod_takesBound_5 (by decide) rfl (by decide) rfl rfl (by omega) ?_
  refine j_if_ne (tgt := 49) h d_Mod_takesBound_6 (by decide) (fun c1 => ?_) (fun c1 => ?_)
  · refine j_iload_n h d_Mod_takesBound_49 rfl ?_
    refine j_if_eq (tgt := 73) h d_Mod_takesBound_50 (by decide) (fun c2 => ?_) (fun c2 => ?_)
    · refine j_iconst (v := 0) h d_Mod_takesBound_73 (by decide) ?_
      exact j_zret hX d_Mod_takesBound_74 rfl (by first | exact Or.inl rfl | exact Or.inr rfl | exact b01_z _ | assumption) (Nat.le_refl _) (Nat.le_refl _) ⟨rfl, by clear hX h hl h125; unfold tkBound; first | (simp_all [b01_0]; done) | grind [b01_0], by clear hX h hl h125; exact bkC (by intro cc ii; unfold tkBound; first | (simp_all [b01_0, bnd, up_rd]; done) | grind [b01_0, bnd, up_rd]), rfl⟩
    · refine j_aload_n h d_Mod_takesBound_53 rfl ?_
      refine j_getR h d_Mod_takesBound_54 fl_Mod_34 rfl (by assumption) (mP ms (a := 18) (by decide)) ?_
      refine j_iload_n h d_Mod_takesBound_57 rfl ?_
      refine m_iald2 (a := 18) (L := 64) (j := r) h ms d_Mod_takesBound_58 (by decide) rfl (by decide) rfl rfl (by omega) ?_
      refine j_iconst (v := 2) h d_Mod_takesBound_59 (by decide) ?_
      refine j_ic_eq (tgt := 75) h d_Mod_takesBound_60 (by decide) (fun c3 => ?_) (fun c3 => ?_)
      · refine j_aload_n h d_Mod_takesBound_75 rfl ?_
        refine j_getR h d_Mod_takesBound_76 fl_Mod_34 rfl (by assumption) (mP ms (a := 18) (by decide)) ?_
        refine j_iload_n h d_Mod_takesBound_79 rfl ?_
        refine m_iald2 (a := 18) (L := 64) (j := r) h ms d_Mod_takesBound_80 (by decide) rfl (by decide) rfl rfl (by omega) ?_
        refine j_iconst (v := 3) h d_Mod_takesBound_81 (by decide) ?_
        refine j_ic_ne (tgt := 124) h d_Mod_takesBound_82 (by decide) (fun c4 => ?_) (fun c4 => ?_)
        · refine j_iconst (v := 0) h d_Mod_takesBound_124 (by decide) ?_
          refine j_istore h d_Mod_takesBound_125 (Nat.lt_of_lt_of_eq (m := 5) (by decide) hN.symm) ?_
          refine j_lv (lv' := [(0, .ref (K.ad 6 0)), (1, .int (nI r)), (2, .ref (K.aad 38)), (3, .int (b01 (C 11 r = x 9))), (4, .int _)]) (lvs rfl (lvs rfl (lvs rfl (lvs rfl (lvs rfl lvs0))))) ?_
          exact h125 _ (by clear hX h hl h125; first | (simp_all [b01_0]; done) | grind [b01_0]) (by clear hX h hl h125; first | (simp_all [b01_0]; done) | grind [b01_0])
        · refine j_aload_n h d_Mod_takesBound_85 rfl ?_
          refine j_bipush (v := 10) h d_Mod_takesBound_86 (by decide) ?_
          refine m_iald3e (a := 38) (L := 14) (j := 10) (v := x 10) h ms d_Mod_takesBound_88 (by decide) rfl (by decide) rfl rfl (by omega) (hrd 10 (by decide)) ?_
          refine j_aload_n h d_Mod_takesBound_89 rfl ?_
          refine j_getR h d_Mod_takesBound_90 fl_Mod_43 rfl (by assumption) (mP ms (a := 21) (by decide)) ?_
          refine j_iload_n h d_Mod_takesBound_93 rfl ?_
          refine m_iald2 (a := 21) (L := 64) (j := r) h ms d_Mod_takesBound_94 (by decide) rfl (by decide) rfl rfl (by omega) ?_
          refine j_ic_gt (tgt := 120) h d_Mod_takesBound_95 (by decide) (fun c5 => ?_) (fun c5 => ?_)
          · refine j_iconst (v := 1) h d_Mod_takesBound_120 (by decide) ?_
            refine j_goto (tgt := 125) h d_Mod_takesBound_121 (by decide) ?_
            refine j_istore h d_Mod_takesBound_125 (Nat.lt_of_lt_of_eq (m := 5) (by decide) hN.symm) ?_
            refine j_lv (lv' := [(0, .ref (K.ad 6 0)), (1, .int (nI r)), (2, .ref (K.aad 38)), (3, .int (b01 (C 11 r = x 9))), (4, .int _)]) (lvs rfl (lvs rfl (lvs rfl (lvs rfl (lvs rfl lvs0))))) ?_
            exact h125 _ (by clear hX h hl h125; first | (simp_all [b01_0]; done) | grind [b01_0]) (by clear hX h hl h125; first | (simp_all [b01_0]; done) | grind [b01_0])
          · refine j_aload_n h d_Mod_takesBound_98 rfl ?_
            refine j_bipush (v := 6) h d_Mod_takesBound_99 (by decide) ?_
            refine m_iald3e (a := 38) (L := 14) (j := 6) (v := x 6) h ms d_Mod_takesBound_101 (by decide) rfl (by decide) rfl rfl (by omega) (hrd 6 (by decide)) ?_
            refine j_aload_n h d_Mod_takesBound_102 rfl ?_
            refine j_getR h d_Mod_takesBound_103 fl_Mod_40 rfl (by assumption) (mP ms (a := 20) (by decide)) ?_
            refine j_iload_n h d_Mod_takesBound_106 rfl ?_
            refine m_iald2 (a := 20) (L := 64) (j := r) h ms d_Mod_takesBound_107 (by decide) rfl (by decide) rfl rfl (by omega) ?_
            refine j_ic_le (tgt := 124) h d_Mod_takesBound_108 (by decide) (fun c6 => ?_) (fun c6 => ?_)
            · refine j_iconst (v := 0) h d_Mod_takesBound_124 (by decide) ?_
              refine j_istore h d_Mod_takesBound_125 (Nat.lt_of_lt_of_eq (m := 5) (by decide) hN.symm) ?_
              refine j_lv (lv' := [(0, .ref (K.ad 6 0)), (1, .int (nI r)), (2, .ref (K.aad 38)), (3, .int (b01 (C 11 r = x 9))), (4, .int _)]) (lvs rfl (lvs rfl (lvs rfl (lvs rfl (lvs rfl lvs0))))) ?_
              exact h125 _ (by clear hX h hl h125; first | (simp_all [b01_0]; done) | grind [b01_0]) (by clear hX h hl h125; first | (simp_all [b01_0]; done) | grind [b01_0])
            · refine j_aload_n h d_Mod_takesBound_111 rfl ?_
              refine j_getR h d_Mod_takesBound_112 fl_Mod_46 rfl (by assumption) (mP ms (a := 22) (by decide)) ?_
              refine j_iload_n h d_Mod_takesBound_115 rfl ?_
              refine m_zald2 (a := 22) (L := 64) (j := r) h ms d_Mod_takesBound_116 (by decide) rfl (by decide) rfl rfl (by omega) ?_
              refine j_if_ne (tgt := 124) h d_Mod_takesBound_117 (by decide) (fun c7 => ?_) (fun c7 => ?_)
              · refine j_iconst (v := 0) h d_Mod_takesBound_124 (by decide) ?_
                refine j_istore h d_Mod_takesBound_125 (Nat.lt_of_lt_of_eq (m := 5) (by decide) hN.symm) ?_
                refine j_lv (lv' := [(0, .ref (K.ad 6 0)), (1, .int (nI r)), (2, .ref (K.aad 38)), (3, .int (b01 (C 11 r = x 9))), (4, .int _)]) (lvs rfl (lvs rfl (lvs rfl (lvs rfl (lvs rfl lvs0))))) ?_
                exact h125 _ (by clear hX h hl h125; first | (simp_all [b01_0]; done) | grind [b01_0]) (by clear hX h hl h125; first | (simp_all [b01_0]; done) | grind [b01_0])
              · refine j_iconst (v := 1) h d_Mod_takesBound_120 (by decide) ?_
                refine j_goto (tgt := 125) h d_Mod_takesBound_121 (by decide) ?_
                refine j_istore h d_Mod_takesBound_125 (Nat.lt_of_lt_of_eq (m := 5) (by decide) hN.symm) ?_
                refine j_lv (lv' := [(0, .ref (K.ad 6 0)), (1, .int (nI r)), (2, .ref (K.aad 38)), (3, .int (b01 (C 11 r = x 9))), (4, .int _)]) (lvs rfl (lvs rfl (lvs rfl (lvs rfl (lvs rfl lvs0))))) ?_
                exact h125 _ (by clear hX h hl h125; first | (simp_all [b01_0]; done) | grind [b01_0]) (by clear hX h hl h125; first | (simp_all [b01_0]; done) | grind [b01_0])
      · refine j_aload_n h d_Mod_takesBound_63 rfl ?_
        refine j_getR h d_Mod_takesBound_64 fl_Mod_34 rfl (by assumption) (mP ms (a := 18) (by decide)) ?_
        refine j_iload_n h d_Mod_takesBound_67 rfl ?_
        refine m_iald2 (a := 18) (L := 64) (j := r) h ms d_Mod_takesBound_68 (by decide) rfl (by decide) rfl rfl (by omega) ?_
        refine j_iconst (v := 3) h d_Mod_takesBound_69 (by decide) ?_
        refine j_ic_eq (tgt := 75) h d_Mod_takesBound_70 (by decide) (fun c8 => ?_) (fun c8 => ?_)
        · refine j_aload_n h d_Mod_takesBound_75 rfl ?_
          refine j_getR h d_Mod_takesBound_76 fl_Mod_34 rfl (by assumption) (mP ms (a := 18) (by decide)) ?_
          refine j_iload_n h d_Mod_takesBound_79 rfl ?_
          refine m_iald2 (a := 18) (L := 64) (j := r) h ms d_Mod_takesBound_80 (by decide) rfl (by decide) rfl rfl (by omega) ?_
          refine j_iconst (v := 3) h d_Mod_takesBound_81 (by decide) ?_
          refine j_ic_ne (tgt := 124) h d_Mod_takesBound_82 (by decide) (fun c9 => ?_) (fun c9 => ?_)
          · refine j_iconst (v := 0) h d_Mod_takesBound_124 (by decide) ?_
            refine j_istore h d_Mod_takesBound_125 (Nat.lt_of_lt_of_eq (m := 5) (by decide) hN.symm) ?_
            refine j_lv (lv' := [(0, .ref (K.ad 6 0)), (1, .int (nI r)), (2, .ref (K.aad 38)), (3, .int (b01 (C 11 r = x 9))), (4, .int _)]) (lvs rfl (lvs rfl (lvs rfl (lvs rfl (lvs rfl lvs0))))) ?_
            exact h125 _ (by clear hX h hl h125; first | (simp_all [b01_0]; done) | grind [b01_0]) (by clear hX h hl h125; first | (simp_all [b01_0]; done) | grind [b01_0])
          · refine j_aload_n h d_Mod_takesBound_85 rfl ?_
            refine j_bipush (v := 10) h d_Mod_takesBound_86 (by decide) ?_
            refine m_iald3e (a := 38) (L := 14) (j := 10) (v := x 10) h ms d_Mod_takesBound_88 (by decide) rfl (by decide) rfl rfl (by omega) (hrd 10 (by decide)) ?_
            refine j_aload_n h d_Mod_takesBound_89 rfl ?_
            refine j_getR h d_Mod_takesBound_90 fl_Mod_43 rfl (by assumption) (mP ms (a := 21) (by decide)) ?_
            refine j_iload_n h d_Mod_takesBound_93 rfl ?_
            refine m_iald2 (a := 21) (L := 64) (j := r) h ms d_Mod_takesBound_94 (by decide) rfl (by decide) rfl rfl (by omega) ?_
            refine j_ic_gt (tgt := 120) h d_Mod_takesBound_95 (by decide) (fun c10 => ?_) (fun c10 => ?_)
            · refine j_iconst (v := 1) h d_Mod_takesBound_120 (by decide) ?_
              refine j_goto (tgt := 125) h d_Mod_takesBound_121 (by decide) ?_
              refine j_istore h d_Mod_takesBound_125 (Nat.lt_of_lt_of_eq (m := 5) (by decide) hN.symm) ?_
              refine j_lv (lv' := [(0, .ref (K.ad 6 0)), (1, .int (nI r)), (2, .ref (K.aad 38)), (3, .int (b01 (C 11 r = x 9))), (4, .int _)]) (lvs rfl (lvs rfl (lvs rfl (lvs rfl (lvs rfl lvs0))))) ?_
              exact h125 _ (by clear hX h hl h125; first | (simp_all [b01_0]; done) | grind [b01_0]) (by clear hX h hl h125; first | (simp_all [b01_0]; done) | grind [b01_0])
            · refine j_aload_n h d_Mod_takesBound_98 rfl ?_
              refine j_bipush (v := 6) h d_Mod_takesBound_99 (by decide) ?_
              refine m_iald3e (a := 38) (L := 14) (j := 6) (v := x 6) h ms d_Mod_takesBound_101 (by decide) rfl (by decide) rfl rfl (by omega) (hrd 6 (by decide)) ?_
              refine j_aload_n h d_Mod_takesBound_102 rfl ?_
              refine j_getR h d_Mod_takesBound_103 fl_Mod_40 rfl (by assumption) (mP ms (a := 20) (by decide)) ?_
              refine j_iload_n h d_Mod_takesBound_106 rfl ?_
              refine m_iald2 (a := 20) (L := 64) (j := r) h ms d_Mod_takesBound_107 (by decide) rfl (by decide) rfl rfl (by omega) ?_
              refine j_ic_le (tgt := 124) h d_Mod_takesBound_108 (by decide) (fun c11 => ?_) (fun c11 => ?_)
              · refine j_iconst (v := 0) h d_Mod_takesBound_124 (by decide) ?_
                refine j_istore h d_Mod_takesBound_125 (Nat.lt_of_lt_of_eq (m := 5) (by decide) hN.symm) ?_
                refine j_lv (lv' := [(0, .ref (K.ad 6 0)), (1, .int (nI r)), (2, .ref (K.aad 38)), (3, .int (b01 (C 11 r = x 9))), (4, .int _)]) (lvs rfl (lvs rfl (lvs rfl (lvs rfl (lvs rfl lvs0))))) ?_
                exact h125 _ (by clear hX h hl h125; first | (simp_all [b01_0]; done) | grind [b01_0]) (by clear hX h hl h125; first | (simp_all [b01_0]; done) | grind [b01_0])
              · refine j_aload_n h d_Mod_takesBound_111 rfl ?_
                refine j_getR h d_Mod_takesBound_112 fl_Mod_46 rfl (by assumption) (mP ms (a := 22) (by decide)) ?_
                refine j_iload_n h d_Mod_takesBound_115 rfl ?_
                refine m_zald2 (a := 22) (L := 64) (j := r) h ms d_Mod_takesBound_116 (by decide) rfl (by decide) rfl rfl (by omega) ?_
                refine j_if_ne (tgt := 124) h d_Mod_takesBound_117 (by decide) (fun c12 => ?_) (fun c12 => ?_)
                · refine j_iconst (v := 0) h d_Mod_takesBound_124 (by decide) ?_
                  refine j_istore h d_Mod_takesBound_125 (Nat.lt_of_lt_of_eq (m := 5) (by decide) hN.symm) ?_
                  refine j_lv (lv' := [(0, .ref (K.ad 6 0)), (1, .int (nI r)), (2, .ref (K.aad 38)), (3, .int (b01 (C 11 r = x 9))), (4, .int _)]) (lvs rfl (lvs rfl (lvs rfl (lvs rfl (lvs rfl lvs0))))) ?_
                  exact h125 _ (by clear hX h hl h125; first | (simp_all [b01_0]; done) | grind [b01_0]) (by clear hX h hl h125; first | (simp_all [b01_0]; done) | grind [b01_0])
                · refine j_iconst (v := 1) h d_Mod_takesBound_120 (by decide) ?_
                  refine j_goto (tgt := 125) h d_Mod_takesBound_121 (by decide) ?_
                  refine j_istore h d_Mod_takesBound_125 (Nat.lt_of_lt_of_eq (m := 5) (by decide) hN.symm) ?_
                  refine j_lv (lv' := [(0, .ref (K.ad 6 0)), (1, .int (nI r)), (2, .ref (K.aad 38)), (3, .int (b01 (C 11 r = x 9))), (4, .int _)]) (lvs rfl (lvs rfl (lvs rfl (lvs rfl (lvs rfl lvs0))))) ?_
                  exact h125 _ (by clear hX h hl h125; first | (simp_all [b01_0]; done) | grind [b01_0]) (by clear hX h hl h125; first | (simp_all [b01_0]; done) | grind [b01_0])
        · refine j_iconst (v := 0) h d_Mod_takesBound_73 (by decide) ?_
          exact j_zret hX d_Mod_takesBound_74 rfl (by first | exact Or.inl rfl | exact Or.inr rfl | exact b01_z _ | assumption) (Nat.le_refl _) (Nat.le_refl _) ⟨rfl, by clear hX h hl h125; unfold tkBound; first | (simp_all [b01_0]; done) | grind [b01_0], by clear hX h hl h125; exact bkC (by intro cc ii; unfold tkBound; first | (simp_all [b01_0, bnd, up_rd]; done) | grind [b01_0, bnd, up_rd]), rfl⟩
  · have hE : (tkBound C r (x 9) (x 6) (x 10)) = (1, up (bnd C r (x 9) (x 6) (x 10) (C 15 r + 1)) 17 r 0) := by unfold tkBound; rw [if_pos (by assumption)]
    refine j_aload_n h d_Mod_takesBound_9 rfl ?_
    refine j_iload_n h d_Mod_takesBound_10 rfl ?_
    refine j_aload_n h d_Mod_takesBound_11 rfl ?_
    refine j_bipush (v := 9) h d_Mod_takesBound_12 (by decide) ?_
    refine m_iald3e (a := 38) (L := 14) (j := 9) (v := x 9) h ms d_Mod_takesBound_14 (by decide) rfl (by decide) rfl rfl (by omega) (hrd 9 (by decide)) ?_
    refine j_aload_n h d_Mod_takesBound_15 rfl ?_
    refine j_bipush (v := 6) h d_Mod_takesBound_16 (by decide) ?_
    refine m_iald3e (a := 38) (L := 14) (j := 6) (v := x 6) h ms d_Mod_takesBound_18 (by decide) rfl (by decide) rfl rfl (by omega) (hrd 6 (by decide)) ?_
    refine j_aload_n h d_Mod_takesBound_19 rfl ?_
    refine j_bipush (v := 10) h d_Mod_takesBound_20 (by decide) ?_
    refine m_iald3e (a := 38) (L := 14) (j := 10) (v := x 10) h ms d_Mod_takesBound_22 (by decide) rfl (by decide) rfl rfl (by omega) (hrd 10 (by decide)) ?_
    refine j_callV h (c_Mod_bind _ _ _ _ _ _ _ _ ms _ (by omega) _ _ _) d_Mod_takesBound_23 ml_Mod_143 mv_Mod_bind (by assumption) ⟨rfl, rfl⟩ rfl rfl (Nat.le_of_ble_eq_true rfl) (hR_of hX (by decide) (by decide)) (hf_of hX (by decide) (by decide)) ?_
    rintro _ _ _ _ ⟨rfl, rfl, rfl, rfl⟩
    refine j_aload_n h d_Mod_takesBound_26 rfl ?_
    refine j_getR h d_Mod_takesBound_27 fl_Mod_53 rfl (by assumption) (mP ms (a := 24) (by decide)) ?_
    refine j_iload_n h d_Mod_takesBound_30 rfl ?_
    refine j_aload_n h d_Mod_takesBound_31 rfl ?_
    refine j_getR h d_Mod_takesBound_32 fl_Mod_50 rfl (by assumption) (mP ms (a := 23) (by decide)) ?_
    refine j_iload_n h d_Mod_takesBound_35 rfl ?_
    refine m_iald2 (a := 23) (L := 64) (j := r) h ms d_Mod_takesBound_36 (by decide) rfl (by decide) rfl rfl (by omega) ?_
    refine j_iconst (v := 1) h d_Mod_takesBound_37 (by decide) ?_
    refine j_iadd h d_Mod_takesBound_38 ?_
    refine m_iast2 (a := 24) (L := 64) (j := r) h ms d_Mod_takesBound_39 (by decide) rfl (by decide) rfl rfl (by omega) ?_
    refine j_aload_n h d_Mod_takesBound_40 rfl ?_
    refine j_getR h d_Mod_takesBound_41 fl_Mod_56 rfl (by assumption) (mP ms (a := 25) (by decide)) ?_
    refine j_iload_n h d_Mod_takesBound_44 rfl ?_
    refine j_iconst (v := 0) h d_Mod_takesBound_45 (by decide) ?_
    refine m_zast2 (a := 25) (L := 64) (j := r) h ms d_Mod_takesBound_46 (by decide) rfl (by decide) rfl rfl (by omega) (by first | exact Or.inl rfl | exact Or.inr rfl | exact b01_z _ | assumption) ?_
    refine j_iconst (v := 1) h d_Mod_takesBound_47 (by decide) ?_
    exact j_zret hX d_Mod_takesBound_48 rfl (Or.inr rfl) (Nat.le_refl _) (Nat.le_refl _) ⟨rfl, by rw [hE], by rw [hE]; clear hX h hl; exact bkC (by intro cc ii; simp only [bnd, up_rd]; grind), rfl⟩
