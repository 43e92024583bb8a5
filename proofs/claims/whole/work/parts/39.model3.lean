/-! the model: ends, releases, renewals -/
theorem d_Mod_ends_0 : decode b_Mod_ends 0 = .ok (.aload_n 0, 1) := by decide +kernel
theorem d_Mod_ends_1 : decode b_Mod_ends 1 = .ok (.iload_n 1, 1) := by decide +kernel
theorem d_Mod_ends_2 : decode b_Mod_ends 2 = .ok (.invokevirtual 128, 3) := by decide +kernel
theorem d_Mod_ends_5 : decode b_Mod_ends 5 = .ok (.istore_n 3, 1) := by decide +kernel
theorem d_Mod_ends_6 : decode b_Mod_ends 6 = .ok (.aload_n 0, 1) := by decide +kernel
theorem d_Mod_ends_7 : decode b_Mod_ends 7 = .ok (.getfield 7, 3) := by decide +kernel
theorem d_Mod_ends_10 : decode b_Mod_ends 10 = .ok (.iload_n 1, 1) := by decide +kernel
theorem d_Mod_ends_11 : decode b_Mod_ends 11 = .ok (.iaload, 1) := by decide +kernel
theorem d_Mod_ends_12 : decode b_Mod_ends 12 = .ok (.iconst 2, 1) := by decide +kernel
theorem d_Mod_ends_13 : decode b_Mod_ends 13 = .ok (.if_icmp .ne 54, 3) := by decide +kernel
theorem d_Mod_ends_16 : decode b_Mod_ends 16 = .ok (.aload_n 0, 1) := by decide +kernel
theorem d_Mod_ends_17 : decode b_Mod_ends 17 = .ok (.getfield 34, 3) := by decide +kernel
theorem d_Mod_ends_20 : decode b_Mod_ends 20 = .ok (.iload_n 2, 1) := by decide +kernel
theorem d_Mod_ends_21 : decode b_Mod_ends 21 = .ok (.iaload, 1) := by decide +kernel
theorem d_Mod_ends_22 : decode b_Mod_ends 22 = .ok (.iconst 2, 1) := by decide +kernel
theorem d_Mod_ends_23 : decode b_Mod_ends 23 = .ok (.if_icmp .ne 17, 3) := by decide +kernel
theorem d_Mod_ends_26 : decode b_Mod_ends 26 = .ok (.aload_n 0, 1) := by decide +kernel
theorem d_Mod_ends_27 : decode b_Mod_ends 27 = .ok (.getfield 40, 3) := by decide +kernel
theorem d_Mod_ends_30 : decode b_Mod_ends 30 = .ok (.iload_n 2, 1) := by decide +kernel
theorem d_Mod_ends_31 : decode b_Mod_ends 31 = .ok (.iaload, 1) := by decide +kernel
theorem d_Mod_ends_32 : decode b_Mod_ends 32 = .ok (.iload_n 3, 1) := by decide +kernel
theorem d_Mod_ends_33 : decode b_Mod_ends 33 = .ok (.if_icmp .gt 7, 3) := by decide +kernel
theorem d_Mod_ends_36 : decode b_Mod_ends 36 = .ok (.iconst 1, 1) := by decide +kernel
theorem d_Mod_ends_37 : decode b_Mod_ends 37 = .ok (.goto 4, 3) := by decide +kernel
theorem d_Mod_ends_40 : decode b_Mod_ends 40 = .ok (.iconst 0, 1) := by decide +kernel
theorem d_Mod_ends_41 : decode b_Mod_ends 41 = .ok (.istore 4, 2) := by decide +kernel
theorem d_Mod_ends_43 : decode b_Mod_ends 43 = .ok (.aload_n 0, 1) := by decide +kernel
theorem d_Mod_ends_44 : decode b_Mod_ends 44 = .ok (.getfield 34, 3) := by decide +kernel
theorem d_Mod_ends_47 : decode b_Mod_ends 47 = .ok (.iload_n 2, 1) := by decide +kernel
theorem d_Mod_ends_48 : decode b_Mod_ends 48 = .ok (.iload 4, 2) := by decide +kernel
theorem d_Mod_ends_50 : decode b_Mod_ends 50 = .ok (.ifCond .eq 7, 3) := by decide +kernel
theorem d_Mod_ends_53 : decode b_Mod_ends 53 = .ok (.iconst 3, 1) := by decide +kernel
theorem d_Mod_ends_54 : decode b_Mod_ends 54 = .ok (.goto 9, 3) := by decide +kernel
theorem d_Mod_ends_57 : decode b_Mod_ends 57 = .ok (.aload_n 0, 1) := by decide +kernel
theorem d_Mod_ends_58 : decode b_Mod_ends 58 = .ok (.getfield 34, 3) := by decide +kernel
theorem d_Mod_ends_61 : decode b_Mod_ends 61 = .ok (.iload_n 2, 1) := by decide +kernel
theorem d_Mod_ends_62 : decode b_Mod_ends 62 = .ok (.iaload, 1) := by decide +kernel
theorem d_Mod_ends_63 : decode b_Mod_ends 63 = .ok (.iastore, 1) := by decide +kernel
theorem d_Mod_ends_64 : decode b_Mod_ends 64 = .ok (.iload 4, 2) := by decide +kernel
theorem d_Mod_ends_66 : decode b_Mod_ends 66 = .ok (.ireturn, 1) := by decide +kernel
theorem d_Mod_ends_67 : decode b_Mod_ends 67 = .ok (.aload_n 0, 1) := by decide +kernel
theorem d_Mod_ends_68 : decode b_Mod_ends 68 = .ok (.getfield 68, 3) := by decide +kernel
theorem d_Mod_ends_71 : decode b_Mod_ends 71 = .ok (.iload_n 2, 1) := by decide +kernel
theorem d_Mod_ends_72 : decode b_Mod_ends 72 = .ok (.baload, 1) := by decide +kernel
theorem d_Mod_ends_73 : decode b_Mod_ends 73 = .ok (.ifCond .eq 64, 3) := by decide +kernel
theorem d_Mod_ends_76 : decode b_Mod_ends 76 = .ok (.aload_n 0, 1) := by decide +kernel
theorem d_Mod_ends_77 : decode b_Mod_ends 77 = .ok (.getfield 34, 3) := by decide +kernel
theorem d_Mod_ends_80 : decode b_Mod_ends 80 = .ok (.iload_n 2, 1) := by decide +kernel
theorem d_Mod_ends_81 : decode b_Mod_ends 81 = .ok (.iaload, 1) := by decide +kernel
theorem d_Mod_ends_82 : decode b_Mod_ends 82 = .ok (.iconst 2, 1) := by decide +kernel
theorem d_Mod_ends_83 : decode b_Mod_ends 83 = .ok (.if_icmp .ne 13, 3) := by decide +kernel
theorem d_Mod_ends_86 : decode b_Mod_ends 86 = .ok (.aload_n 0, 1) := by decide +kernel
theorem d_Mod_ends_87 : decode b_Mod_ends 87 = .ok (.getfield 40, 3) := by decide +kernel
theorem d_Mod_ends_90 : decode b_Mod_ends 90 = .ok (.iload_n 2, 1) := by decide +kernel
theorem d_Mod_ends_91 : decode b_Mod_ends 91 = .ok (.iaload, 1) := by decide +kernel
theorem d_Mod_ends_92 : decode b_Mod_ends 92 = .ok (.iload_n 3, 1) := by decide +kernel
theorem d_Mod_ends_93 : decode b_Mod_ends 93 = .ok (.if_icmp .le 13, 3) := by decide +kernel
theorem d_Mod_ends_96 : decode b_Mod_ends 96 = .ok (.aload_n 0, 1) := by decide +kernel
theorem d_Mod_ends_97 : decode b_Mod_ends 97 = .ok (.getfield 34, 3) := by decide +kernel
theorem d_Mod_ends_100 : decode b_Mod_ends 100 = .ok (.iload_n 2, 1) := by decide +kernel
theorem d_Mod_ends_101 : decode b_Mod_ends 101 = .ok (.iaload, 1) := by decide +kernel
theorem d_Mod_ends_102 : decode b_Mod_ends 102 = .ok (.iconst 3, 1) := by decide +kernel
theorem d_Mod_ends_103 : decode b_Mod_ends 103 = .ok (.if_icmp .ne 7, 3) := by decide +kernel
theorem d_Mod_ends_106 : decode b_Mod_ends 106 = .ok (.iconst 1, 1) := by decide +kernel
theorem d_Mod_ends_107 : decode b_Mod_ends 107 = .ok (.goto 4, 3) := by decide +kernel
theorem d_Mod_ends_110 : decode b_Mod_ends 110 = .ok (.iconst 0, 1) := by decide +kernel
theorem d_Mod_ends_111 : decode b_Mod_ends 111 = .ok (.istore 4, 2) := by decide +kernel
theorem d_Mod_ends_113 : decode b_Mod_ends 113 = .ok (.aload_n 0, 1) := by decide +kernel
theorem d_Mod_ends_114 : decode b_Mod_ends 114 = .ok (.getfield 34, 3) := by decide +kernel
theorem d_Mod_ends_117 : decode b_Mod_ends 117 = .ok (.iload_n 2, 1) := by decide +kernel
theorem d_Mod_ends_118 : decode b_Mod_ends 118 = .ok (.iload 4, 2) := by decide +kernel
theorem d_Mod_ends_120 : decode b_Mod_ends 120 = .ok (.ifCond .eq 7, 3) := by decide +kernel
theorem d_Mod_ends_123 : decode b_Mod_ends 123 = .ok (.iconst 1, 1) := by decide +kernel
theorem d_Mod_ends_124 : decode b_Mod_ends 124 = .ok (.goto 9, 3) := by decide +kernel
theorem d_Mod_ends_127 : decode b_Mod_ends 127 = .ok (.aload_n 0, 1) := by decide +kernel
theorem d_Mod_ends_128 : decode b_Mod_ends 128 = .ok (.getfield 34, 3) := by decide +kernel
theorem d_Mod_ends_131 : decode b_Mod_ends 131 = .ok (.iload_n 2, 1) := by decide +kernel
theorem d_Mod_ends_132 : decode b_Mod_ends 132 = .ok (.iaload, 1) := by decide +kernel
theorem d_Mod_ends_133 : decode b_Mod_ends 133 = .ok (.iastore, 1) := by decide +kernel
theorem d_Mod_ends_134 : decode b_Mod_ends 134 = .ok (.iload 4, 2) := by decide +kernel
theorem d_Mod_ends_136 : decode b_Mod_ends 136 = .ok (.ireturn, 1) := by decide +kernel
theorem d_Mod_ends_137 : decode b_Mod_ends 137 = .ok (.aload_n 0, 1) := by decide +kernel
theorem d_Mod_ends_138 : decode b_Mod_ends 138 = .ok (.getfield 34, 3) := by decide +kernel
theorem d_Mod_ends_141 : decode b_Mod_ends 141 = .ok (.iload_n 2, 1) := by decide +kernel
theorem d_Mod_ends_142 : decode b_Mod_ends 142 = .ok (.iaload, 1) := by decide +kernel
theorem d_Mod_ends_143 : decode b_Mod_ends 143 = .ok (.iconst 1, 1) := by decide +kernel
theorem d_Mod_ends_144 : decode b_Mod_ends 144 = .ok (.if_icmp .eq 32, 3) := by decide +kernel
theorem d_Mod_ends_147 : decode b_Mod_ends 147 = .ok (.iload_n 3, 1) := by decide +kernel
theorem d_Mod_ends_148 : decode b_Mod_ends 148 = .ok (.aload_n 0, 1) := by decide +kernel
theorem d_Mod_ends_149 : decode b_Mod_ends 149 = .ok (.getfield 40, 3) := by decide +kernel
theorem d_Mod_ends_152 : decode b_Mod_ends 152 = .ok (.iload_n 2, 1) := by decide +kernel
theorem d_Mod_ends_153 : decode b_Mod_ends 153 = .ok (.iaload, 1) := by decide +kernel
theorem d_Mod_ends_154 : decode b_Mod_ends 154 = .ok (.aload_n 0, 1) := by decide +kernel
theorem d_Mod_ends_155 : decode b_Mod_ends 155 = .ok (.getfield 25, 3) := by decide +kernel
theorem d_Mod_ends_158 : decode b_Mod_ends 158 = .ok (.iload_n 1, 1) := by decide +kernel
theorem d_Mod_ends_159 : decode b_Mod_ends 159 = .ok (.iaload, 1) := by decide +kernel
theorem d_Mod_ends_160 : decode b_Mod_ends 160 = .ok (.aload_n 0, 1) := by decide +kernel
theorem d_Mod_ends_161 : decode b_Mod_ends 161 = .ok (.getfield 105, 3) := by decide +kernel
theorem d_Mod_ends_164 : decode b_Mod_ends 164 = .ok (.iadd, 1) := by decide +kernel
theorem d_Mod_ends_165 : decode b_Mod_ends 165 = .ok (.invokestatic 150, 3) := by decide +kernel
theorem d_Mod_ends_168 : decode b_Mod_ends 168 = .ok (.aload_n 0, 1) := by decide +kernel
theorem d_Mod_ends_169 : decode b_Mod_ends 169 = .ok (.getfield 102, 3) := by decide +kernel
theorem d_Mod_ends_172 : decode b_Mod_ends 172 = .ok (.iadd, 1) := by decide +kernel
theorem d_Mod_ends_173 : decode b_Mod_ends 173 = .ok (.if_icmp .ge 5, 3) := by decide +kernel
theorem d_Mod_ends_176 : decode b_Mod_ends 176 = .ok (.iconst 0, 1) := by decide +kernel
theorem d_Mod_ends_177 : decode b_Mod_ends 177 = .ok (.ireturn, 1) := by decide +kernel
theorem d_Mod_ends_178 : decode b_Mod_ends 178 = .ok (.aload_n 0, 1) := by decide +kernel
theorem d_Mod_ends_179 : decode b_Mod_ends 179 = .ok (.getfield 34, 3) := by decide +kernel
theorem d_Mod_ends_182 : decode b_Mod_ends 182 = .ok (.iload_n 2, 1) := by decide +kernel
theorem d_Mod_ends_183 : decode b_Mod_ends 183 = .ok (.iconst 1, 1) := by decide +kernel
theorem d_Mod_ends_184 : decode b_Mod_ends 184 = .ok (.iastore, 1) := by decide +kernel
theorem d_Mod_ends_185 : decode b_Mod_ends 185 = .ok (.aload_n 0, 1) := by decide +kernel
theorem d_Mod_ends_186 : decode b_Mod_ends 186 = .ok (.getfield 68, 3) := by decide +kernel
theorem d_Mod_ends_189 : decode b_Mod_ends 189 = .ok (.iload_n 2, 1) := by decide +kernel
theorem d_Mod_ends_190 : decode b_Mod_ends 190 = .ok (.iconst 1, 1) := by decide +kernel
theorem d_Mod_ends_191 : decode b_Mod_ends 191 = .ok (.bastore, 1) := by decide +kernel
theorem d_Mod_ends_192 : decode b_Mod_ends 192 = .ok (.aload_n 0, 1) := by decide +kernel
theorem d_Mod_ends_193 : decode b_Mod_ends 193 = .ok (.getfield 65, 3) := by decide +kernel
theorem d_Mod_ends_196 : decode b_Mod_ends 196 = .ok (.iload_n 2, 1) := by decide +kernel
theorem d_Mod_ends_197 : decode b_Mod_ends 197 = .ok (.aload_n 0, 1) := by decide +kernel
theorem d_Mod_ends_198 : decode b_Mod_ends 198 = .ok (.getfield 22, 3) := by decide +kernel
theorem d_Mod_ends_201 : decode b_Mod_ends 201 = .ok (.iload_n 1, 1) := by decide +kernel
theorem d_Mod_ends_202 : decode b_Mod_ends 202 = .ok (.iaload, 1) := by decide +kernel
theorem d_Mod_ends_203 : decode b_Mod_ends 203 = .ok (.iastore, 1) := by decide +kernel
theorem d_Mod_ends_204 : decode b_Mod_ends 204 = .ok (.aload_n 0, 1) := by decide +kernel
theorem d_Mod_ends_205 : decode b_Mod_ends 205 = .ok (.getfield 62, 3) := by decide +kernel
theorem d_Mod_ends_208 : decode b_Mod_ends 208 = .ok (.iload_n 2, 1) := by decide +kernel
theorem d_Mod_ends_209 : decode b_Mod_ends 209 = .ok (.iconst (-1), 1) := by decide +kernel
theorem d_Mod_ends_210 : decode b_Mod_ends 210 = .ok (.iastore, 1) := by decide +kernel
theorem d_Mod_ends_211 : decode b_Mod_ends 211 = .ok (.iconst 1, 1) := by decide +kernel
theorem d_Mod_ends_212 : decode b_Mod_ends 212 = .ok (.ireturn, 1) := by decide +kernel
set_option maxRecDepth 100000 in
set_option maxHeartbeats 4000000 in
theorem c_Mod_ends (l : Launch) (K : Kx) (V : Vx) (A B C D : MI) (P : MP) (ms : MSt K V P) (s : Nat) (hs : s < 2) (r : Nat) (hr : r < 64) (n : Nat) (ld sk : Int32) (hf : MF C n ld sk) : Ct l K md_Mod_ends (1, 21) 0 0 [.ref (K.ad 6 0), .int (nI s), .int (nI r)] V (bk4 A B C D) P (fun V' q I' P' => V' = V ∧ P' = P ∧ ∃ C1, I' = bk4 A B C1 D ∧ q = some (.int (enOne C r s ld sk (clk C s)).1) ∧ ((enOne C r s ld sk (clk C s)).1 = 0 → C1 = (enOne C r s ld sk (clk C s)).2) ∧ (¬ (enOne C r s ld sk (clk C s)).1 = 0 → chg C1 r = (enOne C r s ld sk (clk C s)).2)) := by
  refine ct_of [(0, .ref (K.ad 6 0)), (1, .int (nI s)), (2, .int (nI r))] (by decide) (Nat.le_of_ble_eq_true rfl) (ca_r (ca_i (ca_i ca_n))) rfl ?_
  intro X hl hX
  have h : OkX X b_Mod_ends R_Mod K := hX.1
  have hN : X.nL = 5 := hX.2.1
  have hmv := ms.1
  obtain ⟨hn32, h42, h43, h44⟩ := hf
  refine j_aload_n h d_Mod_ends_0 rfl ?_
  refine j_iload_n h d_Mod_ends_1 rfl ?_
  refine j_callV h (c_Mod_clock _ _ _ _ _ _ _ _ ms _ hs) d_Mod_ends_2 ml_Mod_128 mv_Mod_clock (by assumption) ⟨rfl, rfl⟩ rfl rfl (Nat.le_of_ble_eq_true rfl) (hR_of hX (by decide) (by decide)) (hf_of hX (by decide) (by decide)) ?_
  rintro _ _ _ _ ⟨rfl, rfl, rfl, rfl⟩
  refine j_istore_n h d_Mod_ends_5 (Nat.lt_of_lt_of_eq (m := 5) (by decide) hN.symm) ?_
  refine j_aload_n h d_Mod_ends_6 rfl ?_
  refine j_getR h d_Mod_ends_7 fl_Mod_7 rfl (by assumption) (mP ms (a := 10) (by decide)) ?_
  refine j_iload_n h d_Mod_ends_10 rfl ?_
  refine m_iald2 (a := 10) (L := 2) (j := s) h ms d_Mod_ends_11 (by decide) rfl (by decide) rfl rfl (by omega) ?_
  refine j_iconst (v := 2) h d_Mod_ends_12 (by decide) ?_
  refine j_ic_ne (tgt := 67) h d_Mod_ends_13 (by decide) (fun c1 => ?_) (fun c1 => ?_)
  · refine j_aload_n h d_Mod_ends_67 rfl ?_
    refine j_getR h d_Mod_ends_68 fl_Mod_68 rfl (by assumption) (mP ms (a := 29) (by decide)) ?_
    refine j_iload_n h d_Mod_ends_71 rfl ?_
    refine m_zald2 (a := 29) (L := 64) (j := r) h ms d_Mod_ends_72 (by decide) rfl (by decide) rfl rfl (by omega) ?_
    refine j_if_eq (tgt := 137) h d_Mod_ends_73 (by decide) (fun c2 => ?_) (fun c2 => ?_)
    · refine j_aload_n h d_Mod_ends_137 rfl ?_
      refine j_getR h d_Mod_ends_138 fl_Mod_34 rfl (by assumption) (mP ms (a := 18) (by decide)) ?_
      refine j_iload_n h d_Mod_ends_141 rfl ?_
      refine m_iald2 (a := 18) (L := 64) (j := r) h ms d_Mod_ends_142 (by decide) rfl (by decide) rfl rfl (by omega) ?_
      refine j_iconst (v := 1) h d_Mod_ends_143 (by decide) ?_
      refine j_ic_eq (tgt := 176) h d_Mod_ends_144 (by decide) (fun c3 => ?_) (fun c3 => ?_)
      · refine j_iconst (v := 0) h d_Mod_ends_176 (by decide) ?_
        exact j_zret hX d_Mod_ends_177 rfl (by first | exact Or.inl rfl | exact Or.inr rfl | exact b01_z _ | assumption) (Nat.le_refl _) (Nat.le_refl _) ⟨rfl, rfl, _, rfl, by clear hX h hl; first | rfl | (simp_all [enOne, endT, enAlone, enSole, tkOver, chgTo, chg, up_rd]; done) | grind [enOne, endT, enAlone, enSole, tkOver, chgTo, chg, up_rd], by intro z; clear hX h hl; first | (funext cc ii; simp_all [enOne, endT, enAlone, enSole, tkOver, chgTo, chg, up_rd]; done) | (funext cc ii; grind [enOne, endT, enAlone, enSole, tkOver, chgTo, chg, up_rd]) | (simp only [enOne, endT, enAlone, enSole, tkOver, chgTo, chg] at z ⊢; repeat' split at z; all_goals (repeat' split); all_goals (first | (exfalso; grind) | (funext cc ii; first | (simp_all [up_rd]; done) | grind [up_rd]))), by intro z; clear hX h hl; first | (funext cc ii; simp_all [enOne, endT, enAlone, enSole, tkOver, chgTo, chg, up_rd]; done) | (funext cc ii; grind [enOne, endT, enAlone, enSole, tkOver, chgTo, chg, up_rd]) | (simp only [enOne, endT, enAlone, enSole, tkOver, chgTo, chg] at z ⊢; repeat' split at z; all_goals (repeat' split); all_goals (first | (exfalso; grind) | (funext cc ii; first | (simp_all [up_rd]; done) | grind [up_rd])))⟩
      · refine j_iload_n h d_Mod_ends_147 rfl ?_
        refine j_aload_n h d_Mod_ends_148 rfl ?_
        refine j_getR h d_Mod_ends_149 fl_Mod_40 rfl (by assumption) (mP ms (a := 20) (by decide)) ?_
        refine j_iload_n h d_Mod_ends_152 rfl ?_
        refine m_iald2 (a := 20) (L := 64) (j := r) h ms d_Mod_ends_153 (by decide) rfl (by decide) rfl rfl (by omega) ?_
        refine j_aload_n h d_Mod_ends_154 rfl ?_
        refine j_getR h d_Mod_ends_155 fl_Mod_25 rfl (by assumption) (mP ms (a := 15) (by decide)) ?_
        refine j_iload_n h d_Mod_ends_158 rfl ?_
        refine m_iald2 (a := 15) (L := 2) (j := s) h ms d_Mod_ends_159 (by decide) rfl (by decide) rfl rfl (by omega) ?_
        refine j_aload_n h d_Mod_ends_160 rfl ?_
        refine j_get2 h d_Mod_ends_161 fl_Mod_105 rfl (by assumption) ?_
        refine j_iadd h d_Mod_ends_164 ?_
        refine j_callS h (c_Mod_greater _ _ _ _ _ _ _ _ _ _) d_Mod_ends_165 ml_Mod_150 ms_Mod_greater rfl rfl (Nat.le_of_ble_eq_true rfl) (hR_of hX (by decide) (by decide)) (hf_of hX (by decide) (by decide)) ?_
        rintro _ _ _ _ ⟨rfl, rfl, rfl, rfl⟩
        refine j_aload_n h d_Mod_ends_168 rfl ?_
        refine j_get2 h d_Mod_ends_169 fl_Mod_102 rfl (by assumption) ?_
        refine j_iadd h d_Mod_ends_172 ?_
        refine j_ic_ge (tgt := 178) h d_Mod_ends_173 (by decide) (fun c4 => ?_) (fun c4 => ?_)
        · refine j_aload_n h d_Mod_ends_178 rfl ?_
          refine j_getR h d_Mod_ends_179 fl_Mod_34 rfl (by assumption) (mP ms (a := 18) (by decide)) ?_
          refine j_iload_n h d_Mod_ends_182 rfl ?_
          refine j_iconst (v := 1) h d_Mod_ends_183 (by decide) ?_
          refine m_iast2 (a := 18) (L := 64) (j := r) h ms d_Mod_ends_184 (by decide) rfl (by decide) rfl rfl (by omega) ?_
          refine j_aload_n h d_Mod_ends_185 rfl ?_
          refine j_getR h d_Mod_ends_186 fl_Mod_68 rfl (by assumption) (mP ms (a := 29) (by decide)) ?_
          refine j_iload_n h d_Mod_ends_189 rfl ?_
          refine j_iconst (v := 1) h d_Mod_ends_190 (by decide) ?_
          refine m_zast2 (a := 29) (L := 64) (j := r) h ms d_Mod_ends_191 (by decide) rfl (by decide) rfl rfl (by omega) (by first | exact Or.inl rfl | exact Or.inr rfl | exact b01_z _ | assumption) ?_
          refine j_aload_n h d_Mod_ends_192 rfl ?_
          refine j_getR h d_Mod_ends_193 fl_Mod_65 rfl (by assumption) (mP ms (a := 28) (by decide)) ?_
          refine j_iload_n h d_Mod_ends_196 rfl ?_
          refine j_aload_n h d_Mod_ends_197 rfl ?_
          refine j_getR h d_Mod_ends_198 fl_Mod_22 rfl (by assumption) (mP ms (a := 14) (by decide)) ?_
          refine j_iload_n h d_Mod_ends_201 rfl ?_
          refine m_iald2 (a := 14) (L := 2) (j := s) h ms d_Mod_ends_202 (by decide) rfl (by decide) rfl rfl (by omega) ?_
          refine m_iast2 (a := 28) (L := 64) (j := r) h ms d_Mod_ends_203 (by decide) rfl (by decide) rfl rfl (by omega) ?_
          refine j_aload_n h d_Mod_ends_204 rfl ?_
          refine j_getR h d_Mod_ends_205 fl_Mod_62 rfl (by assumption) (mP ms (a := 27) (by decide)) ?_
          refine j_iload_n h d_Mod_ends_208 rfl ?_
          refine j_iconst (v := -1) h d_Mod_ends_209 (by decide) ?_
          refine m_iast2 (a := 27) (L := 64) (j := r) h ms d_Mod_ends_210 (by decide) rfl (by decide) rfl rfl (by omega) ?_
          refine j_iconst (v := 1) h d_Mod_ends_211 (by decide) ?_
          exact j_zret hX d_Mod_ends_212 rfl (by first | exact Or.inl rfl | exact Or.inr rfl | exact b01_z _ | assumption) (Nat.le_refl _) (Nat.le_refl _) ⟨rfl, rfl, _, rfl, by clear hX h hl; first | rfl | (simp_all [enOne, endT, enAlone, enSole, tkOver, chgTo, chg, up_rd]; done) | grind [enOne, endT, enAlone, enSole, tkOver, chgTo, chg, up_rd], by intro z; clear hX h hl; first | (funext cc ii; simp_all [enOne, endT, enAlone, enSole, tkOver, chgTo, chg, up_rd]; done) | (funext cc ii; grind [enOne, endT, enAlone, enSole, tkOver, chgTo, chg, up_rd]) | (simp only [enOne, endT, enAlone, enSole, tkOver, chgTo, chg] at z ⊢; repeat' split at z; all_goals (repeat' split); all_goals (first | (exfalso; grind) | (funext cc ii; first | (simp_all [up_rd]; done) | grind [up_rd]))), by intro z; clear hX h hl; first | (funext cc ii; simp_all [enOne, endT, enAlone, enSole, tkOver, chgTo, chg, up_rd]; done) | (funext cc ii; grind [enOne, endT, enAlone, enSole, tkOver, chgTo, chg, up_rd]) | (simp only [enOne, endT, enAlone, enSole, tkOver, chgTo, chg] at z ⊢; repeat' split at z; all_goals (repeat' split); all_goals (first | (exfalso; grind) | (funext cc ii; first | (simp_all [up_rd]; done) | grind [up_rd])))⟩
        · refine j_iconst (v := 0) h d_Mod_ends_176 (by decide) ?_
          exact j_zret hX d_Mod_ends_177 rfl (by first | exact Or.inl rfl | exact Or.inr rfl | exact b01_z _ | assumption) (Nat.le_refl _) (Nat.le_refl _) ⟨rfl, rfl, _, rfl, by clear hX h hl; first | rfl | (simp_all [enOne, endT, enAlone, enSole, tkOver, chgTo, chg, up_rd]; done) | grind [enOne, endT, enAlone, enSole, tkOver, chgTo, chg, up_rd], by intro z; clear hX h hl; first | (funext cc ii; simp_all [enOne, endT, enAlone, enSole, tkOver, chgTo, chg, up_rd]; done) | (funext cc ii; grind [enOne, endT, enAlone, enSole, tkOver, chgTo, chg, up_rd]) | (simp only [enOne, endT, enAlone, enSole, tkOver, chgTo, chg] at z ⊢; repeat' split at z; all_goals (repeat' split); all_goals (first | (exfalso; grind) | (funext cc ii; first | (simp_all [up_rd]; done) | grind [up_rd]))), by intro z; clear hX h hl; first | (funext cc ii; simp_all [enOne, endT, enAlone, enSole, tkOver, chgTo, chg, up_rd]; done) | (funext cc ii; grind [enOne, endT, enAlone, enSole, tkOver, chgTo, chg, up_rd]) | (simp only [enOne, endT, enAlone, enSole, tkOver, chgTo, chg] at z ⊢; repeat' split at z; all_goals (repeat' split); all_goals (first | (exfalso; grind) | (funext cc ii; first | (simp_all [up_rd]; done) | grind [up_rd])))⟩
    · refine j_aload_n h d_Mod_ends_76 rfl ?_
      refine j_getR h d_Mod_ends_77 fl_Mod_34 rfl (by assumption) (mP ms (a := 18) (by decide)) ?_
      refine j_iload_n h d_Mod_ends_80 rfl ?_
      refine m_iald2 (a := 18) (L := 64) (j := r) h ms d_Mod_ends_81 (by decide) rfl (by decide) rfl rfl (by omega) ?_
      refine j_iconst (v := 2) h d_Mod_ends_82 (by decide) ?_
      refine j_ic_ne (tgt := 96) h d_Mod_ends_83 (by decide) (fun c5 => ?_) (fun c5 => ?_)
      · refine j_aload_n h d_Mod_ends_96 rfl ?_
        refine j_getR h d_Mod_ends_97 fl_Mod_34 rfl (by assumption) (mP ms (a := 18) (by decide)) ?_
        refine j_iload_n h d_Mod_ends_100 rfl ?_
        refine m_iald2 (a := 18) (L := 64) (j := r) h ms d_Mod_ends_101 (by decide) rfl (by decide) rfl rfl (by omega) ?_
        refine j_iconst (v := 3) h d_Mod_ends_102 (by decide) ?_
        refine j_ic_ne (tgt := 110) h d_Mod_ends_103 (by decide) (fun c6 => ?_) (fun c6 => ?_)
        · refine j_iconst (v := 0) h d_Mod_ends_110 (by decide) ?_
          refine j_istore h d_Mod_ends_111 (Nat.lt_of_lt_of_eq (m := 5) (by decide) hN.symm) ?_
          refine j_aload_n h d_Mod_ends_113 rfl ?_
          refine j_getR h d_Mod_ends_114 fl_Mod_34 rfl (by assumption) (mP ms (a := 18) (by decide)) ?_
          refine j_iload_n h d_Mod_ends_117 rfl ?_
          refine j_iload h d_Mod_ends_118 rfl ?_
          refine j_if_eq (tgt := 127) h d_Mod_ends_120 (by decide) (fun c7 => ?_) (fun c7 => absurd c7 (by decide))
          refine j_aload_n h d_Mod_ends_127 rfl ?_
          refine j_getR h d_Mod_ends_128 fl_Mod_34 rfl (by assumption) (mP ms (a := 18) (by decide)) ?_
          refine j_iload_n h d_Mod_ends_131 rfl ?_
          refine m_iald2 (a := 18) (L := 64) (j := r) h ms d_Mod_ends_132 (by decide) rfl (by decide) rfl rfl (by omega) ?_
          refine m_iast2 (a := 18) (L := 64) (j := r) h ms d_Mod_ends_133 (by decide) rfl (by decide) rfl rfl (by omega) ?_
          refine j_iload h d_Mod_ends_134 rfl ?_
          exact j_zret hX d_Mod_ends_136 rfl (by first | exact Or.inl rfl | exact Or.inr rfl | exact b01_z _ | assumption) (Nat.le_refl _) (Nat.le_refl _) ⟨rfl, rfl, _, rfl, by clear hX h hl; first | rfl | (simp_all [enOne, endT, enAlone, enSole, tkOver, chgTo, chg, up_rd]; done) | grind [enOne, endT, enAlone, enSole, tkOver, chgTo, chg, up_rd], by intro z; clear hX h hl; first | (funext cc ii; simp_all [enOne, endT, enAlone, enSole, tkOver, chgTo, chg, up_rd]; done) | (funext cc ii; grind [enOne, endT, enAlone, enSole, tkOver, chgTo, chg, up_rd]) | (simp only [enOne, endT, enAlone, enSole, tkOver, chgTo, chg] at z ⊢; repeat' split at z; all_goals (repeat' split); all_goals (first | (exfalso; grind) | (funext cc ii; first | (simp_all [up_rd]; done) | grind [up_rd]))), by intro z; clear hX h hl; first | (funext cc ii; simp_all [enOne, endT, enAlone, enSole, tkOver, chgTo, chg, up_rd]; done) | (funext cc ii; grind [enOne, endT, enAlone, enSole, tkOver, chgTo, chg, up_rd]) | (simp only [enOne, endT, enAlone, enSole, tkOver, chgTo, chg] at z ⊢; repeat' split at z; all_goals (repeat' split); all_goals (first | (exfalso; grind) | (funext cc ii; first | (simp_all [up_rd]; done) | grind [up_rd])))⟩
        · refine j_iconst (v := 1) h d_Mod_ends_106 (by decide) ?_
          refine j_goto (tgt := 111) h d_Mod_ends_107 (by decide) ?_
          refine j_istore h d_Mod_ends_111 (Nat.lt_of_lt_of_eq (m := 5) (by decide) hN.symm) ?_
          refine j_aload_n h d_Mod_ends_113 rfl ?_
          refine j_getR h d_Mod_ends_114 fl_Mod_34 rfl (by assumption) (mP ms (a := 18) (by decide)) ?_
          refine j_iload_n h d_Mod_ends_117 rfl ?_
          refine j_iload h d_Mod_ends_118 rfl ?_
          refine j_if_eq (tgt := 127) h d_Mod_ends_120 (by decide) (fun c8 => absurd c8 (by decide)) (fun c8 => ?_)
          refine j_iconst (v := 1) h d_Mod_ends_123 (by decide) ?_
          refine j_goto (tgt := 133) h d_Mod_ends_124 (by decide) ?_
          refine m_iast2 (a := 18) (L := 64) (j := r) h ms d_Mod_ends_133 (by decide) rfl (by decide) rfl rfl (by omega) ?_
          refine j_iload h d_Mod_ends_134 rfl ?_
          exact j_zret hX d_Mod_ends_136 rfl (by first | exact Or.inl rfl | exact Or.inr rfl | exact b01_z _ | assumption) (Nat.le_refl _) (Nat.le_refl _) ⟨rfl, rfl, _, rfl, by clear hX h hl; first | rfl | (simp_all [enOne, endT, enAlone, enSole, tkOver, chgTo, chg, up_rd]; done) | grind [enOne, endT, enAlone, enSole, tkOver, chgTo, chg, up_rd], by intro z; clear hX h hl; first | (funext cc ii; simp_all [enOne, endT, enAlone, enSole, tkOver, chgTo, chg, up_rd]; done) | (funext cc ii; grind [enOne, endT, enAlone, enSole, tkOver, chgTo, chg, up_rd]) | (simp only [enOne, endT, enAlone, enSole, tkOver, chgTo, chg] at z ⊢; repeat' split at z; all_goals (repeat' split); all_goals (first | (exfalso; grind) | (funext cc ii; first | (simp_all [up_rd]; done) | grind [up_rd]))), by intro z; clear hX h hl; first | (funext cc ii; simp_all [enOne, endT, enAlone, enSole, tkOver, chgTo, chg, up_rd]; done) | (funext cc ii; grind [enOne, endT, enAlone, enSole, tkOver, chgTo, chg, up_rd]) | (simp only [enOne, endT, enAlone, enSole, tkOver, chgTo, chg] at z ⊢; repeat' split at z; all_goals (repeat' split); all_goals (first | (exfalso; grind) | (funext cc ii; first | (simp_all [up_rd]; done) | grind [up_rd])))⟩
      · refine j_aload_n h d_Mod_ends_86 rfl ?_
        refine j_getR h d_Mod_ends_87 fl_Mod_40 rfl (by assumption) (mP ms (a := 20) (by decide)) ?_
        refine j_iload_n h d_Mod_ends_90 rfl ?_
        refine m_iald2 (a := 20) (L := 64) (j := r) h ms d_Mod_ends_91 (by decide) rfl (by decide) rfl rfl (by omega) ?_
        refine j_iload_n h d_Mod_ends_92 rfl ?_
        refine j_ic_le (tgt := 106) h d_Mod_ends_93 (by decide) (fun c9 => ?_) (fun c9 => ?_)
        · refine j_iconst (v := 1) h d_Mod_ends_106 (by decide) ?_
          refine j_goto (tgt := 111) h d_Mod_ends_107 (by decide) ?_
          refine j_istore h d_Mod_ends_111 (Nat.lt_of_lt_of_eq (m := 5) (by decide) hN.symm) ?_
          refine j_aload_n h d_Mod_ends_113 rfl ?_
          refine j_getR h d_Mod_ends_114 fl_Mod_34 rfl (by assumption) (mP ms (a := 18) (by decide)) ?_
          refine j_iload_n h d_Mod_ends_117 rfl ?_
          refine j_iload h d_Mod_ends_118 rfl ?_
          refine j_if_eq (tgt := 127) h d_Mod_ends_120 (by decide) (fun c10 => absurd c10 (by decide)) (fun c10 => ?_)
          refine j_iconst (v := 1) h d_Mod_ends_123 (by decide) ?_
          refine j_goto (tgt := 133) h d_Mod_ends_124 (by decide) ?_
          refine m_iast2 (a := 18) (L := 64) (j := r) h ms d_Mod_ends_133 (by decide) rfl (by decide) rfl rfl (by omega) ?_
          refine j_iload h d_Mod_ends_134 rfl ?_
          exact j_zret hX d_Mod_ends_136 rfl (by first | exact Or.inl rfl | exact Or.inr rfl | exact b01_z _ | assumption) (Nat.le_refl _) (Nat.le_refl _) ⟨rfl, rfl, _, rfl, by clear hX h hl; first | rfl | (simp_all [enOne, endT, enAlone, enSole, tkOver, chgTo, chg, up_rd]; done) | grind [enOne, endT, enAlone, enSole, tkOver, chgTo, chg, up_rd], by intro z; clear hX h hl; first | (funext cc ii; simp_all [enOne, endT, enAlone, enSole, tkOver, chgTo, chg, up_rd]; done) | (funext cc ii; grind [enOne, endT, enAlone, enSole, tkOver, chgTo, chg, up_rd]) | (simp only [enOne, endT, enAlone, enSole, tkOver, chgTo, chg] at z ⊢; repeat' split at z; all_goals (repeat' split); all_goals (first | (exfalso; grind) | (funext cc ii; first | (simp_all [up_rd]; done) | grind [up_rd]))), by intro z; clear hX h hl; first | (funext cc ii; simp_all [enOne, endT, enAlone, enSole, tkOver, chgTo, chg, up_rd]; done) | (funext cc ii; grind [enOne, endT, enAlone, enSole, tkOver, chgTo, chg, up_rd]) | (simp only [enOne, endT, enAlone, enSole, tkOver, chgTo, chg] at z ⊢; repeat' split at z; all_goals (repeat' split); all_goals (first | (exfalso; grind) | (funext cc ii; first | (simp_all [up_rd]; done) | grind [up_rd])))⟩
        · refine j_aload_n h d_Mod_ends_96 rfl ?_
          refine j_getR h d_Mod_ends_97 fl_Mod_34 rfl (by assumption) (mP ms (a := 18) (by decide)) ?_
          refine j_iload_n h d_Mod_ends_100 rfl ?_
          refine m_iald2 (a := 18) (L := 64) (j := r) h ms d_Mod_ends_101 (by decide) rfl (by decide) rfl rfl (by omega) ?_
          refine j_iconst (v := 3) h d_Mod_ends_102 (by decide) ?_
          refine j_ic_ne (tgt := 110) h d_Mod_ends_103 (by decide) (fun c11 => ?_) (fun c11 => ?_)
          · refine j_iconst (v := 0) h d_Mod_ends_110 (by decide) ?_
            refine j_istore h d_Mod_ends_111 (Nat.lt_of_lt_of_eq (m := 5) (by decide) hN.symm) ?_
            refine j_aload_n h d_Mod_ends_113 rfl ?_
            refine j_getR h d_Mod_ends_114 fl_Mod_34 rfl (by assumption) (mP ms (a := 18) (by decide)) ?_
            refine j_iload_n h d_Mod_ends_117 rfl ?_
            refine j_iload h d_Mod_ends_118 rfl ?_
            refine j_if_eq (tgt := 127) h d_Mod_ends_120 (by decide) (fun c12 => ?_) (fun c12 => absurd c12 (by decide))
            refine j_aload_n h d_Mod_ends_127 rfl ?_
            refine j_getR h d_Mod_ends_128 fl_Mod_34 rfl (by assumption) (mP ms (a := 18) (by decide)) ?_
            refine j_iload_n h d_Mod_ends_131 rfl ?_
            refine m_iald2 (a := 18) (L := 64) (j := r) h ms d_Mod_ends_132 (by decide) rfl (by decide) rfl rfl (by omega) ?_
            refine m_iast2 (a := 18) (L := 64) (j := r) h ms d_Mod_ends_133 (by decide) rfl (by decide) rfl rfl (by omega) ?_
            refine j_iload h d_Mod_ends_134 rfl ?_
            exact j_zret hX d_Mod_ends_136 rfl (by first | exact Or.inl rfl | exact Or.inr rfl | exact b01_z _ | assumption) (Nat.le_refl _) (Nat.le_refl _) ⟨rfl, rfl, _, rfl, by clear hX h hl; first | rfl | (simp_all [enOne, endT, enAlone, enSole, tkOver, chgTo, chg, up_rd]; done) | grind [enOne, endT, enAlone, enSole, tkOver, chgTo, chg, up_rd], by intro z; clear hX h hl; first | (funext cc ii; simp_all [enOne, endT, enAlone, enSole, tkOver, chgTo, chg, up_rd]; done) | (funext cc ii; grind [enOne, endT, enAlone, enSole, tkOver, chgTo, chg, up_rd]) | (simp only [enOne, endT, enAlone, enSole, tkOver, chgTo, chg] at z ⊢; repeat' split at z; all_goals (repeat' split); all_goals (first | (exfalso; grind) | (funext cc ii; first | (simp_all [up_rd]; done) | grind [up_rd]))), by intro z; clear hX h hl; first | (funext cc ii; simp_all [enOne, endT, enAlone, enSole, tkOver, chgTo, chg, up_rd]; done) | (funext cc ii; grind [enOne, endT, enAlone, enSole, tkOver, chgTo, chg, up_rd]) | (simp only [enOne, endT, enAlone, enSole, tkOver, chgTo, chg] at z ⊢; repeat' split at z; all_goals (repeat' split); all_goals (first | (exfalso; grind) | (funext cc ii; first | (simp_all [up_rd]; done) | grind [up_rd])))⟩
          · refine j_iconst (v := 1) h d_Mod_ends_106 (by decide) ?_
            refine j_goto (tgt := 111) h d_Mod_ends_107 (by decide) ?_
            refine j_istore h d_Mod_ends_111 (Nat.lt_of_lt_of_eq (m := 5) (by decide) hN.symm) ?_
            refine j_aload_n h d_Mod_ends_113 rfl ?_
            refine j_getR h d_Mod_ends_114 fl_Mod_34 rfl (by assumption) (mP ms (a := 18) (by decide)) ?_
            refine j_iload_n h d_Mod_ends_117 rfl ?_
            refine j_iload h d_Mod_ends_118 rfl ?_
            refine j_if_eq (tgt := 127) h d_Mod_ends_120 (by decide) (fun c13 => absurd c13 (by decide)) (fun c13 => ?_)
            refine j_iconst (v := 1) h d_Mod_ends_123 (by decide) ?_
            refine j_goto (tgt := 133) h d_Mod_ends_124 (by decide) ?_
            refine m_iast2 (a := 18) (L := 64) (j := r) h ms d_Mod_ends_133 (by decide) rfl (by decide) rfl rfl (by omega) ?_
            refine j_iload h d_Mod_ends_134 rfl ?_
            exact j_zret hX d_Mod_ends_136 rfl (by first | exact Or.inl rfl | exact Or.inr rfl | exact b01_z _ | assumption) (Nat.le_refl _) (Nat.le_refl _) ⟨rfl, rfl, _, rfl, by clear hX h hl; first | rfl | (simp_all [enOne, endT, enAlone, enSole, tkOver, chgTo, chg, up_rd]; done) | grind [enOne, endT, enAlone, enSole, tkOver, chgTo, chg, up_rd], by intro z; clear hX h hl; first | (funext cc ii; simp_all [enOne, endT, enAlone, enSole, tkOver, chgTo, chg, up_rd]; done) | (funext cc ii; grind [enOne, endT, enAlone, enSole, tkOver, chgTo, chg, up_rd]) | (simp only [enOne, endT, enAlone, enSole, tkOver, chgTo, chg] at z ⊢; repeat' split at z; all_goals (repeat' split); all_goals (first | (exfalso; grind) | (funext cc ii; first | (simp_all [up_rd]; done) | grind [up_rd]))), by intro z; clear hX h hl; first | (funext cc ii; simp_all [enOne, endT, enAlone, enSole, tkOver, chgTo, chg, up_rd]; done) | (funext cc ii; grind [enOne, endT, enAlone, enSole, tkOver, chgTo, chg, up_rd]) | (simp only [enOne, endT, enAlone, enSole, tkOver, chgTo, chg] at z ⊢; repeat' split at z; all_goals (repeat' split); all_goals (first | (exfalso; grind) | (funext cc ii; first | (simp_all [up_rd]; done) | grind [up_rd])))⟩
  · refine j_aload_n h d_Mod_ends_16 rfl ?_
    refine j_getR h d_Mod_ends_17 fl_Mod_34 rfl (by assumption) (mP ms (a := 18) (by decide)) ?_
    refine j_iload_n h d_Mod_ends_20 rfl ?_
    refine m_iald2 (a := 18) (L := 64) (j := r) h ms d_Mod_ends_21 (by decide) rfl (by decide) rfl rfl (by omega) ?_
    refine j_iconst (v := 2) h d_Mod_ends_22 (by decide) ?_
    refine j_ic_ne (tgt := 40) h d_Mod_ends_23 (by decide) (fun c14 => ?_) (fun c14 => ?_)
    · refine j_iconst (v := 0) h d_Mod_ends_40 (by decide) ?_
      refine j_istore h d_Mod_ends_41 (Nat.lt_of_lt_of_eq (m := 5) (by decide) hN.symm) ?_
      refine j_aload_n h d_Mod_ends_43 rfl ?_
      refine j_getR h d_Mod_ends_44 fl_Mod_34 rfl (by assumption) (mP ms (a := 18) (by decide)) ?_
      refine j_iload_n h d_Mod_ends_47 rfl ?_
      refine j_iload h d_Mod_ends_48 rfl ?_
      refine j_if_eq (tgt := 57) h d_Mod_ends_50 (by decide) (fun c15 => ?_) (fun c15 => absurd c15 (by decide))
      refine j_aload_n h d_Mod_ends_57 rfl ?_
      refine j_getR h d_Mod_ends_58 fl_Mod_34 rfl (by assumption) (mP ms (a := 18) (by decide)) ?_
      refine j_iload_n h d_Mod_ends_61 rfl ?_
      refine m_iald2 (a := 18) (L := 64) (j := r) h ms d_Mod_ends_62 (by decide) rfl (by decide) rfl rfl (by omega) ?_
      refine m_iast2 (a := 18) (L := 64) (j := r) h ms d_Mod_ends_63 (by decide) rfl (by decide) rfl rfl (by omega) ?_
      refine j_iload h d_Mod_ends_64 rfl ?_
      exact j_zret hX d_Mod_ends_66 rfl (by first | exact Or.inl rfl | exact Or.inr rfl | exact b01_z _ | assumption) (Nat.le_refl _) (Nat.le_refl _) ⟨rfl, rfl, _, rfl, by clear hX h hl; first | rfl | (simp_all [enOne, endT, enAlone, enSole, tkOver, chgTo, chg, up_rd]; done) | grind [enOne, endT, enAlone, enSole, tkOver, chgTo, chg, up_rd], by intro z; clear hX h hl; first | (funext cc ii; simp_all [enOne, endT, enAlone, enSole, tkOver, chgTo, chg, up_rd]; done) | (funext cc ii; grind [enOne, endT, enAlone, enSole, tkOver, chgTo, chg, up_rd]) | (simp only [enOne, endT, enAlone, enSole, tkOver, chgTo, chg] at z ⊢; repeat' split at z; all_goals (repeat' split); all_goals (first | (exfalso; grind) | (funext cc ii; first | (simp_all [up_rd]; done) | grind [up_rd]))), by intro z; clear hX h hl; first | (funext cc ii; simp_all [enOne, endT, enAlone, enSole, tkOver, chgTo, chg, up_rd]; done) | (funext cc ii; grind [enOne, endT, enAlone, enSole, tkOver, chgTo, chg, up_rd]) | (simp only [enOne, endT, enAlone, enSole, tkOver, chgTo, chg] at z ⊢; repeat' split at z; all_goals (repeat' split); all_goals (first | (exfalso; grind) | (funext cc ii; first | (simp_all [up_rd]; done) | grind [up_rd])))⟩
    · refine j_aload_n h d_Mod_ends_26 rfl ?_
      refine j_getR h d_Mod_ends_27 fl_Mod_40 rfl (by assumption) (mP ms (a := 20) (by decide)) ?_
      refine j_iload_n h d_Mod_ends_30 rfl ?_
      refine m_iald2 (a := 20) (L := 64) (j := r) h ms d_Mod_ends_31 (by decide) rfl (by decide) rfl rfl (by omega) ?_
      refine j_iload_n h d_Mod_ends_32 rfl ?_
      refine j_ic_gt (tgt := 40) h d_Mod_ends_33 (by decide) (fun c16 => ?_) (fun c16 => ?_)
      · refine j_iconst (v := 0) h d_Mod_ends_40 (by decide) ?_
        refine j_istore h d_Mod_ends_41 (Nat.lt_of_lt_of_eq (m := 5) (by decide) hN.symm) ?_
        refine j_aload_n h d_Mod_ends_43 rfl ?_
        refine j_getR h d_Mod_ends_44 fl_Mod_34 rfl (by assumption) (mP ms (a := 18) (by decide)) ?_
        refine j_iload_n h d_Mod_ends_47 rfl ?_
        refine j_iload h d_Mod_ends_48 rfl ?_
        refine j_if_eq (tgt := 57) h d_Mod_ends_50 (by decide) (fun c17 => ?_) (fun c17 => absurd c17 (by decide))
        refine j_aload_n h d_Mod_ends_57 rfl ?_
        refine j_getR h d_Mod_ends_58 fl_Mod_34 rfl (by assumption) (mP ms (a := 18) (by decide)) ?_
        refine j_iload_n h d_Mod_ends_61 rfl ?_
        refine m_iald2 (a := 18) (L := 64) (j := r) h ms d_Mod_ends_62 (by decide) rfl (by decide) rfl rfl (by omega) ?_
        refine m_iast2 (a := 18) (L := 64) (j := r) h ms d_Mod_ends_63 (by decide) rfl (by decide) rfl rfl (by omega) ?_
        refine j_iload h d_Mod_ends_64 rfl ?_
        exact j_zret hX d_Mod_ends_66 rfl (by first | exact Or.inl rfl | exact Or.inr rfl | exact b01_z _ | assumption) (Nat.le_refl _) (Nat.le_refl _) ⟨rfl, rfl, _, rfl, by clear hX h hl; first | rfl | (simp_all [enOne, endT, enAlone, enSole, tkOver, chgTo, chg, up_rd]; done) | grind [enOne, endT, enAlone, enSole, tkOver, chgTo, chg, up_rd], by intro z; clear hX h hl; first | (funext cc ii; simp_all [enOne, endT, enAlone, enSole, tkOver, chgTo, chg, up_rd]; done) | (funext cc ii; grind [enOne, endT, enAlone, enSole, tkOver, chgTo, chg, up_rd]) | (simp only [enOne, endT, enAlone, enSole, tkOver, chgTo, chg] at z ⊢; repeat' split at z; all_goals (repeat' split); all_goals (first | (exfalso; grind) | (funext cc ii; first | (simp_all [up_rd]; done) | grind [up_rd]))), by intro z; clear hX h hl; first | (funext cc ii; simp_all [enOne, endT, enAlone, enSole, tkOver, chgTo, chg, up_rd]; done) | (funext cc ii; grind [enOne, endT, enAlone, enSole, tkOver, chgTo, chg, up_rd]) | (simp only [enOne, endT, enAlone, enSole, tkOver, chgTo, chg] at z ⊢; repeat' split at z; all_goals (repeat' split); all_goals (first | (exfalso; grind) | (funext cc ii; first | (simp_all [up_rd]; done) | grind [up_rd])))⟩
      · refine j_iconst (v := 1) h d_Mod_ends_36 (by decide) ?_
        refine j_goto (tgt := 41) h d_Mod_ends_37 (by decide) ?_
        refine j_istore h d_Mod_ends_41 (Nat.lt_of_lt_of_eq (m := 5) (by decide) hN.symm) ?_
        refine j_aload_n h d_Mod_ends_43 rfl ?_
        refine j_getR h d_Mod_ends_44 fl_Mod_34 rfl (by assumption) (mP ms (a := 18) (by decide)) ?_
        refine j_iload_n h d_Mod_ends_47 rfl ?_
        refine j_iload h d_Mod_ends_48 rfl ?_
        refine j_if_eq (tgt := 57) h d_Mod_ends_50 (by decide) (fun c18 => absurd c18 (by decide)) (fun c18 => ?_)
        refine j_iconst (v := 3) h d_Mod_ends_53 (by decide) ?_
        refine j_goto (tgt := 63) h d_Mod_ends_54 (by decide) ?_
        refine m_iast2 (a := 18) (L := 64) (j := r) h ms d_Mod_ends_63 (by decide) rfl (by decide) rfl rfl (by omega) ?_
        refine j_iload h d_Mod_ends_64 rfl ?_
        exact j_zret hX d_Mod_ends_66 rfl (by first | exact Or.inl rfl | exact Or.inr rfl | exact b01_z _ | assumption) (Nat.le_refl _) (Nat.le_refl _) ⟨rfl, rfl, _, rfl, by clear hX h hl; first | rfl | (simp_all [enOne, endT, enAlone, enSole, tkOver, chgTo, chg, up_rd]; done) | grind [enOne, endT, enAlone, enSole, tkOver, chgTo, chg, up_rd], by intro z; clear hX h hl; first | (funext cc ii; simp_all [enOne, endT, enAlone, enSole, tkOver, chgTo, chg, up_rd]; done) | (funext cc ii; grind [enOne, endT, enAlone, enSole, tkOver, chgTo, chg, up_rd]) | (simp only [enOne, endT, enAlone, enSole, tkOver, chgTo, chg] at z ⊢; repeat' split at z; all_goals (repeat' split); all_goals (first | (exfalso; grind) | (funext cc ii; first | (simp_all [up_rd]; done) | grind [up_rd]))), by intro z; clear hX h hl; first | (funext cc ii; simp_all [enOne, endT, enAlone, enSole, tkOver, chgTo, chg, up_rd]; done) | (funext cc ii; grind [enOne, endT, enAlone, enSole, tkOver, chgTo, chg, up_rd]) | (simp only [enOne, endT, enAlone, enSole, tkOver, chgTo, chg] at z ⊢; repeat' split at z; all_goals (repeat' split); all_goals (first | (exfalso; grind) | (funext cc ii; first | (simp_all [up_rd]; done) | grind [up_rd])))⟩
theorem d_Mod_hearRelease_0 : decode b_Mod_hearRelease 0 = .ok (.bipush 32, 2) := by decide +kernel
theorem d_Mod_hearRelease_2 : decode b_Mod_hearRelease 2 = .ok (.iload_n 1, 1) := by decide +kernel
theorem d_Mod_hearRelease_3 : decode b_Mod_hearRelease 3 = .ok (.imul, 1) := by decide +kernel
theorem d_Mod_hearRelease_4 : decode b_Mod_hearRelease 4 = .ok (.iload_n 3, 1) := by decide +kernel
theorem d_Mod_hearRelease_5 : decode b_Mod_hearRelease 5 = .ok (.iadd, 1) := by decide +kernel
theorem d_Mod_hearRelease_6 : decode b_Mod_hearRelease 6 = .ok (.istore 5, 2) := by decide +kernel
theorem d_Mod_hearRelease_8 : decode b_Mod_hearRelease 8 = .ok (.aload_n 0, 1) := by decide +kernel
theorem d_Mod_hearRelease_9 : decode b_Mod_hearRelease 9 = .ok (.getfield 34, 3) := by decide +kernel
theorem d_Mod_hearRelease_12 : decode b_Mod_hearRelease 12 = .ok (.iload 5, 2) := by decide +kernel
theorem d_Mod_hearRelease_14 : decode b_Mod_hearRelease 14 = .ok (.iaload, 1) := by decide +kernel
theorem d_Mod_hearRelease_15 : decode b_Mod_hearRelease 15 = .ok (.iconst 2, 1) := by decide +kernel
theorem d_Mod_hearRelease_16 : decode b_Mod_hearRelease 16 = .ok (.if_icmp .ne 26, 3) := by decide +kernel
theorem d_Mod_hearRelease_19 : decode b_Mod_hearRelease 19 = .ok (.aload_n 0, 1) := by decide +kernel
theorem d_Mod_hearRelease_20 : decode b_Mod_hearRelease 20 = .ok (.getfield 37, 3) := by decide +kernel
theorem d_Mod_hearRelease_23 : decode b_Mod_hearRelease 23 = .ok (.iload 5, 2) := by decide +kernel
theorem d_Mod_hearRelease_25 : decode b_Mod_hearRelease 25 = .ok (.iaload, 1) := by decide +kernel
theorem d_Mod_hearRelease_26 : decode b_Mod_hearRelease 26 = .ok (.iload_n 2, 1) := by decide +kernel
theorem d_Mod_hearRelease_27 : decode b_Mod_hearRelease 27 = .ok (.if_icmp .ne 15, 3) := by decide +kernel
theorem d_Mod_hearRelease_30 : decode b_Mod_hearRelease 30 = .ok (.aload_n 0, 1) := by decide +kernel
theorem d_Mod_hearRelease_31 : decode b_Mod_hearRelease 31 = .ok (.getfield 43, 3) := by decide +kernel
theorem d_Mod_hearRelease_34 : decode b_Mod_hearRelease 34 = .ok (.iload 5, 2) := by decide +kernel
theorem d_Mod_hearRelease_36 : decode b_Mod_hearRelease 36 = .ok (.iaload, 1) := by decide +kernel
theorem d_Mod_hearRelease_37 : decode b_Mod_hearRelease 37 = .ok (.iload 4, 2) := by decide +kernel
theorem d_Mod_hearRelease_39 : decode b_Mod_hearRelease 39 = .ok (.if_icmp .le 4, 3) := by decide +kernel
theorem d_Mod_hearRelease_42 : decode b_Mod_hearRelease 42 = .ok (.return_, 1) := by decide +kernel
theorem d_Mod_hearRelease_43 : decode b_Mod_hearRelease 43 = .ok (.aload_n 0, 1) := by decide +kernel
theorem d_Mod_hearRelease_44 : decode b_Mod_hearRelease 44 = .ok (.getfield 43, 3) := by decide +kernel
theorem d_Mod_hearRelease_47 : decode b_Mod_hearRelease 47 = .ok (.iload 5, 2) := by decide +kernel
theorem d_Mod_hearRelease_49 : decode b_Mod_hearRelease 49 = .ok (.iload 4, 2) := by decide +kernel
theorem d_Mod_hearRelease_51 : decode b_Mod_hearRelease 51 = .ok (.iastore, 1) := by decide +kernel
theorem d_Mod_hearRelease_52 : decode b_Mod_hearRelease 52 = .ok (.aload_n 0, 1) := by decide +kernel
theorem d_Mod_hearRelease_53 : decode b_Mod_hearRelease 53 = .ok (.getfield 46, 3) := by decide +kernel
theorem d_Mod_hearRelease_56 : decode b_Mod_hearRelease 56 = .ok (.iload 5, 2) := by decide +kernel
theorem d_Mod_hearRelease_58 : decode b_Mod_hearRelease 58 = .ok (.iconst 1, 1) := by decide +kernel
theorem d_Mod_hearRelease_59 : decode b_Mod_hearRelease 59 = .ok (.bastore, 1) := by decide +kernel
theorem d_Mod_hearRelease_60 : decode b_Mod_hearRelease 60 = .ok (.aload_n 0, 1) := by decide +kernel
theorem d_Mod_hearRelease_61 : decode b_Mod_hearRelease 61 = .ok (.getfield 34, 3) := by decide +kernel
theorem d_Mod_hearRelease_64 : decode b_Mod_hearRelease 64 = .ok (.iload 5, 2) := by decide +kernel
theorem d_Mod_hearRelease_66 : decode b_Mod_hearRelease 66 = .ok (.aload_n 0, 1) := by decide +kernel
theorem d_Mod_hearRelease_67 : decode b_Mod_hearRelease 67 = .ok (.getfield 7, 3) := by decide +kernel
theorem d_Mod_hearRelease_70 : decode b_Mod_hearRelease 70 = .ok (.iload_n 1, 1) := by decide +kernel
theorem d_Mod_hearRelease_71 : decode b_Mod_hearRelease 71 = .ok (.iaload, 1) := by decide +kernel
theorem d_Mod_hearRelease_72 : decode b_Mod_hearRelease 72 = .ok (.iconst 3, 1) := by decide +kernel
theorem d_Mod_hearRelease_73 : decode b_Mod_hearRelease 73 = .ok (.if_icmp .ne 17, 3) := by decide +kernel
theorem d_Mod_hearRelease_76 : decode b_Mod_hearRelease 76 = .ok (.aload_n 0, 1) := by decide +kernel
theorem d_Mod_hearRelease_77 : decode b_Mod_hearRelease 77 = .ok (.getfield 68, 3) := by decide +kernel
theorem d_Mod_hearRelease_80 : decode b_Mod_hearRelease 80 = .ok (.iload 5, 2) := by decide +kernel
theorem d_Mod_hearRelease_82 : decode b_Mod_hearRelease 82 = .ok (.baload, 1) := by decide +kernel
theorem d_Mod_hearRelease_83 : decode b_Mod_hearRelease 83 = .ok (.ifCond .eq 7, 3) := by decide +kernel
theorem d_Mod_hearRelease_86 : decode b_Mod_hearRelease 86 = .ok (.iconst 1, 1) := by decide +kernel
theorem d_Mod_hearRelease_87 : decode b_Mod_hearRelease 87 = .ok (.goto 4, 3) := by decide +kernel
theorem d_Mod_hearRelease_90 : decode b_Mod_hearRelease 90 = .ok (.iconst 3, 1) := by decide +kernel
theorem d_Mod_hearRelease_91 : decode b_Mod_hearRelease 91 = .ok (.iastore, 1) := by decide +kernel
theorem d_Mod_hearRelease_92 : decode b_Mod_hearRelease 92 = .ok (.aload_n 0, 1) := by decide +kernel
theorem d_Mod_hearRelease_93 : decode b_Mod_hearRelease 93 = .ok (.iload 5, 2) := by decide +kernel
theorem d_Mod_hearRelease_95 : decode b_Mod_hearRelease 95 = .ok (.invokevirtual 140, 3) := by decide +kernel
theorem d_Mod_hearRelease_98 : decode b_Mod_hearRelease 98 = .ok (.aload_n 0, 1) := by decide +kernel
theorem d_Mod_hearRelease_99 : decode b_Mod_hearRelease 99 = .ok (.iload_n 1, 1) := by decide +kernel
theorem d_Mod_hearRelease_100 : decode b_Mod_hearRelease 100 = .ok (.invokevirtual 147, 3) := by decide +kernel
theorem d_Mod_hearRelease_103 : decode b_Mod_hearRelease 103 = .ok (.istore 6, 2) := by decide +kernel
theorem d_Mod_hearRelease_105 : decode b_Mod_hearRelease 105 = .ok (.return_, 1) := by decide +kernel
set_option maxRecDepth 100000 in
set_option maxHeartbeats 4000000 in
theorem c_Mod_hearRelease (l : Launch) (K : Kx) (V : Vx) (A B C D : MI) (P : MP) (ms : MSt K V P) (s : Nat) (hs : s < 2) (n a : Nat) (ha : a < n) (hn : n ≤ 32) (c num : Int32) : Ct l K md_Mod_hearRelease (1, 21) 0 0 [.ref (K.ad 6 0), .int (nI s), .int c, .int (nI a), .int num] V (bk4 A B C D) P (EQ V (none) (bk4 A B (hrRel C (32 * s + a) s c num) D) P) := by
  refine ct_of [(0, .ref (K.ad 6 0)), (1, .int (nI s)), (2, .int c), (3, .int (nI a)), (4, .int num)] (by decide) (Nat.le_of_ble_eq_true rfl) (ca_r (ca_i (ca_i (ca_i (ca_i ca_n))))) rfl ?_
  intro X hl hX
  have h : OkX X b_Mod_hearRelease R_Mod K := hX.1
  have hN : X.nL = 7 := hX.2.1
  have hmv := ms.1
  refine j_bipush (v := 32) h d_Mod_hearRelease_0 (by decide) ?_
  refine j_iload_n h d_Mod_hearRelease_2 rfl ?_
  refine j_imul h d_Mod_hearRelease_3 ?_
  refine j_iload_n h d_Mod_hearRelease_4 rfl ?_
  refine j_ix32 (s := s) (a := a) h d_Mod_hearRelease_5 ?_
  refine j_istore h d_Mod_hearRelease_6 (Nat.lt_of_lt_of_eq (m := 7) (by decide) hN.symm) ?_
  refine j_aload_n h d_Mod_hearRelease_8 rfl ?_
  refine j_getR h d_Mod_hearRelease_9 fl_Mod_34 rfl (by assumption) (mP ms (a := 18) (by decide)) ?_
  refine j_iload h d_Mod_hearRelease_12 rfl ?_
  refine m_iald2 (a := 18) (L := 64) (j := (32 * s + a)) h ms d_Mod_hearRelease_14 (by decide) rfl (by decide) rfl rfl (by omega) ?_
  refine j_iconst (v := 2) h d_Mod_hearRelease_15 (by decide) ?_
  refine j_ic_ne (tgt := 42) h d_Mod_hearRelease_16 (by decide) (fun c1 => ?_) (fun c1 => ?_)
  · exact j_vret hX d_Mod_hearRelease_42 rfl (Nat.le_refl _) (Nat.le_refl _) ⟨rfl, rfl, by clear hX h hl; first | (simp_all [hrRel, chgTo, up_rd]; done) | grind [hrRel, chgTo, up_rd], rfl⟩
  · refine j_aload_n h d_Mod_hearRelease_19 rfl ?_
    refine j_getR h d_Mod_hearRelease_20 fl_Mod_37 rfl (by assumption) (mP ms (a := 19) (by decide)) ?_
    refine j_iload h d_Mod_hearRelease_23 rfl ?_
    refine m_iald2 (a := 19) (L := 64) (j := (32 * s + a)) h ms d_Mod_hearRelease_25 (by decide) rfl (by decide) rfl rfl (by omega) ?_
    refine j_iload_n h d_Mod_hearRelease_26 rfl ?_
    refine j_ic_ne (tgt := 42) h d_Mod_hearRelease_27 (by decide) (fun c2 => ?_) (fun c2 => ?_)
    · exact j_vret hX d_Mod_hearRelease_42 rfl (Nat.le_refl _) (Nat.le_refl _) ⟨rfl, rfl, by clear hX h hl; first | (simp_all [hrRel, chgTo, up_rd]; done) | grind [hrRel, chgTo, up_rd], rfl⟩
    · refine j_aload_n h d_Mod_hearRelease_30 rfl ?_
      refine j_getR h d_Mod_hearRelease_31 fl_Mod_43 rfl (by assumption) (mP ms (a := 21) (by decide)) ?_
      refine j_iload h d_Mod_hearRelease_34 rfl ?_
      refine m_iald2 (a := 21) (L := 64) (j := (32 * s + a)) h ms d_Mod_hearRelease_36 (by decide) rfl (by decide) rfl rfl (by omega) ?_
      refine j_iload h d_Mod_hearRelease_37 rfl ?_
      refine j_ic_le (tgt := 43) h d_Mod_hearRelease_39 (by decide) (fun c3 => ?_) (fun c3 => ?_)
      · refine j_aload_n h d_Mod_hearRelease_43 rfl ?_
        refine j_getR h d_Mod_hearRelease_44 fl_Mod_43 rfl (by assumption) (mP ms (a := 21) (by decide)) ?_
        refine j_iload h d_Mod_hearRelease_47 rfl ?_
        refine j_iload h d_Mod_hearRelease_49 rfl ?_
        refine m_iast2 (a := 21) (L := 64) (j := (32 * s + a)) h ms d_Mod_hearRelease_51 (by decide) rfl (by decide) rfl rfl (by omega) ?_
        refine j_aload_n h d_Mod_hearRelease_52 rfl ?_
        refine j_getR h d_Mod_hearRelease_53 fl_Mod_46 rfl (by assumption) (mP ms (a := 22) (by decide)) ?_
        refine j_iload h d_Mod_hearRelease_56 rfl ?_
        refine j_iconst (v := 1) h d_Mod_hearRelease_58 (by decide) ?_
        refine m_zast2 (a := 22) (L := 64) (j := (32 * s + a)) h ms d_Mod_hearRelease_59 (by decide) rfl (by decide) rfl rfl (by omega) (by first | exact Or.inl rfl | exact Or.inr rfl | exact b01_z _ | assumption) ?_
        refine j_aload_n h d_Mod_hearRelease_60 rfl ?_
        refine j_getR h d_Mod_hearRelease_61 fl_Mod_34 rfl (by assumption) (mP ms (a := 18) (by decide)) ?_
        refine j_iload h d_Mod_hearRelease_64 rfl ?_
        refine j_aload_n h d_Mod_hearRelease_66 rfl ?_
        refine j_getR h d_Mod_hearRelease_67 fl_Mod_7 rfl (by assumption) (mP ms (a := 10) (by decide)) ?_
        refine j_iload_n h d_Mod_hearRelease_70 rfl ?_
        refine m_iald2 (a := 10) (L := 2) (j := s) h ms d_Mod_hearRelease_71 (by decide) rfl (by decide) rfl rfl (by omega) ?_
        refine j_iconst (v := 3) h d_Mod_hearRelease_72 (by decide) ?_
        refine j_ic_ne (tgt := 90) h d_Mod_hearRelease_73 (by decide) (fun c4 => ?_) (fun c4 => ?_)
        · refine j_iconst (v := 3) h d_Mod_hearRelease_90 (by decide) ?_
          refine m_iast2 (a := 18) (L := 64) (j := (32 * s + a)) h ms d_Mod_hearRelease_91 (by decide) rfl (by decide) rfl rfl (by omega) ?_
          refine j_aload_n h d_Mod_hearRelease_92 rfl ?_
          refine j_iload h d_Mod_hearRelease_93 rfl ?_
          refine j_callV h (c_Mod_change _ _ _ _ _ _ _ _ ms _ (by omega)) d_Mod_hearRelease_95 ml_Mod_140 mv_Mod_change (by assumption) ⟨rfl, rfl⟩ rfl rfl (Nat.le_of_ble_eq_true rfl) (hR_of hX (by decide) (by decide)) (hf_of hX (by decide) (by decide)) ?_
          rintro _ _ _ _ ⟨rfl, rfl, rfl, rfl⟩
          refine j_aload_n h d_Mod_hearRelease_98 rfl ?_
          refine j_iload_n h d_Mod_hearRelease_99 rfl ?_
          refine j_callV h (c_Mod_writes _ _ _ _ _ _ _ _ ms _ hs) d_Mod_hearRelease_100 ml_Mod_147 mv_Mod_writes (by assumption) ⟨rfl, rfl⟩ rfl rfl (Nat.le_of_ble_eq_true rfl) (hR_of hX (by decide) (by decide)) (hf_of hX (by decide) (by decide)) ?_
          rintro _ _ _ _ ⟨rfl, rfl, rfl, rfl⟩
          refine j_istore h d_Mod_hearRelease_103 (Nat.lt_of_lt_of_eq (m := 7) (by decide) hN.symm) ?_
          exact j_vret hX d_Mod_hearRelease_105 rfl (Nat.le_refl _) (Nat.le_refl _) ⟨rfl, rfl, by clear hX h hl; first | (simp_all [hrRel, chgTo, up_rd]; done) | grind [hrRel, chgTo, up_rd], rfl⟩
        · refine j_aload_n h d_Mod_hearRelease_76 rfl ?_
          refine j_getR h d_Mod_hearRelease_77 fl_Mod_68 rfl (by assumption) (mP ms (a := 29) (by decide)) ?_
          refine j_iload h d_Mod_hearRelease_80 rfl ?_
          refine m_zald2 (a := 29) (L := 64) (j := (32 * s + a)) h ms d_Mod_hearRelease_82 (by decide) rfl (by decide) rfl rfl (by omega) ?_
          refine j_if_eq (tgt := 90) h d_Mod_hearRelease_83 (by decide) (fun c5 => ?_) (fun c5 => ?_)
          · refine j_iconst (v := 3) h d_Mod_hearRelease_90 (by decide) ?_
            refine m_iast2 (a := 18) (L := 64) (j := (32 * s + a)) h ms d_Mod_hearRelease_91 (by decide) rfl (by decide) rfl rfl (by omega) ?_
            refine j_aload_n h d_Mod_hearRelease_92 rfl ?_
            refine j_iload h d_Mod_hearRelease_93 rfl ?_
            refine j_callV h (c_Mod_change _ _ _ _ _ _ _ _ ms _ (by omega)) d_Mod_hearRelease_95 ml_Mod_140 mv_Mod_change (by assumption) ⟨rfl, rfl⟩ rfl rfl (Nat.le_of_ble_eq_true rfl) (hR_of hX (by decide) (by decide)) (hf_of hX (by decide) (by decide)) ?_
            rintro _ _ _ _ ⟨rfl, rfl, rfl, rfl⟩
            refine j_aload_n h d_Mod_hearRelease_98 rfl ?_
            refine j_iload_n h d_Mod_hearRelease_99 rfl ?_
            refine j_callV h (c_Mod_writes _ _ _ _ _ _ _ _ ms _ hs) d_Mod_hearRelease_100 ml_Mod_147 mv_Mod_writes (by assumption) ⟨rfl, rfl⟩ rfl rfl (Nat.le_of_ble_eq_true rfl) (hR_of hX (by decide) (by decide)) (hf_of hX (by decide) (by decide)) ?_
            rintro _ _ _ _ ⟨rfl, rfl, rfl, rfl⟩
            refine j_istore h d_Mod_hearRelease_103 (Nat.lt_of_lt_of_eq (m := 7) (by decide) hN.symm) ?_
            exact j_vret hX d_Mod_hearRelease_105 rfl (Nat.le_refl _) (Nat.le_refl _) ⟨rfl, rfl, by clear hX h hl; first | (simp_all [hrRel, chgTo, up_rd]; done) | grind [hrRel, chgTo, up_rd], rfl⟩
          · refine j_iconst (v := 1) h d_Mod_hearRelease_86 (by decide) ?_
            refine j_goto (tgt := 91) h d_Mod_hearRelease_87 (by decide) ?_
            refine m_iast2 (a := 18) (L := 64) (j := (32 * s + a)) h ms d_Mod_hearRelease_91 (by decide) rfl (by decide) rfl rfl (by omega) ?_
            refine j_aload_n h d_Mod_hearRelease_92 rfl ?_
            refine j_iload h d_Mod_hearRelease_93 rfl ?_
            refine j_callV h (c_Mod_change _ _ _ _ _ _ _ _ ms _ (by omega)) d_Mod_hearRelease_95 ml_Mod_140 mv_Mod_change (by assumption) ⟨rfl, rfl⟩ rfl rfl (Nat.le_of_ble_eq_true rfl) (hR_of hX (by decide) (by decide)) (hf_of hX (by decide) (by decide)) ?_
            rintro _ _ _ _ ⟨rfl, rfl, rfl, rfl⟩
            refine j_aload_n h d_Mod_hearRelease_98 rfl ?_
            refine j_iload_n h d_Mod_hearRelease_99 rfl ?_
            refine j_callV h (c_Mod_writes _ _ _ _ _ _ _ _ ms _ hs) d_Mod_hearRelease_100 ml_Mod_147 mv_Mod_writes (by assumption) ⟨rfl, rfl⟩ rfl rfl (Nat.le_of_ble_eq_true rfl) (hR_of hX (by decide) (by decide)) (hf_of hX (by decide) (by decide)) ?_
            rintro _ _ _ _ ⟨rfl, rfl, rfl, rfl⟩
            refine j_istore h d_Mod_hearRelease_103 (Nat.lt_of_lt_of_eq (m := 7) (by decide) hN.symm) ?_
            exact j_vret hX d_Mod_hearRelease_105 rfl (Nat.le_refl _) (Nat.le_refl _) ⟨rfl, rfl, by clear hX h hl; first | (simp_all [hrRel, chgTo, up_rd]; done) | grind [hrRel, chgTo, up_rd], rfl⟩
      · exact j_vret hX d_Mod_hearRelease_42 rfl (Nat.le_refl _) (Nat.le_refl _) ⟨rfl, rfl, by clear hX h hl; first | (simp_all [hrRel, chgTo, up_rd]; done) | grind [hrRel, chgTo, up_rd], rfl⟩
