/-! the model: what a message does -/
theorem d_Mod_hears_0 : decode b_Mod_hears 0 = .ok (.aload_n 1, 1) := by decide +kernel
theorem d_Mod_hears_1 : decode b_Mod_hears 1 = .ok (.iconst 1, 1) := by decide +kernel
theorem d_Mod_hears_2 : decode b_Mod_hears 2 = .ok (.iaload, 1) := by decide +kernel
theorem d_Mod_hears_3 : decode b_Mod_hears 3 = .ok (.istore_n 2, 1) := by decide +kernel
theorem d_Mod_hears_4 : decode b_Mod_hears 4 = .ok (.aload_n 1, 1) := by decide +kernel
theorem d_Mod_hears_5 : decode b_Mod_hears 5 = .ok (.iconst 0, 1) := by decide +kernel
theorem d_Mod_hears_6 : decode b_Mod_hears 6 = .ok (.iaload, 1) := by decide +kernel
theorem d_Mod_hears_7 : decode b_Mod_hears 7 = .ok (.iconst 1, 1) := by decide +kernel
theorem d_Mod_hears_8 : decode b_Mod_hears 8 = .ok (.if_icmp .ne 62, 3) := by decide +kernel
theorem d_Mod_hears_11 : decode b_Mod_hears 11 = .ok (.aload_n 1, 1) := by decide +kernel
theorem d_Mod_hears_12 : decode b_Mod_hears 12 = .ok (.iconst 5, 1) := by decide +kernel
theorem d_Mod_hears_13 : decode b_Mod_hears 13 = .ok (.iaload, 1) := by decide +kernel
theorem d_Mod_hears_14 : decode b_Mod_hears 14 = .ok (.aload_n 0, 1) := by decide +kernel
theorem d_Mod_hears_15 : decode b_Mod_hears 15 = .ok (.getfield 80, 3) := by decide +kernel
theorem d_Mod_hears_18 : decode b_Mod_hears 18 = .ok (.iload_n 2, 1) := by decide +kernel
theorem d_Mod_hears_19 : decode b_Mod_hears 19 = .ok (.iaload, 1) := by decide +kernel
theorem d_Mod_hears_20 : decode b_Mod_hears 20 = .ok (.if_icmp .ne 13, 3) := by decide +kernel
theorem d_Mod_hears_23 : decode b_Mod_hears 23 = .ok (.aload_n 0, 1) := by decide +kernel
theorem d_Mod_hears_24 : decode b_Mod_hears 24 = .ok (.getfield 83, 3) := by decide +kernel
theorem d_Mod_hears_27 : decode b_Mod_hears 27 = .ok (.iload_n 2, 1) := by decide +kernel
theorem d_Mod_hears_28 : decode b_Mod_hears 28 = .ok (.iaload, 1) := by decide +kernel
theorem d_Mod_hears_29 : decode b_Mod_hears 29 = .ok (.iconst 2, 1) := by decide +kernel
theorem d_Mod_hears_30 : decode b_Mod_hears 30 = .ok (.if_icmp .ne 5, 3) := by decide +kernel
theorem d_Mod_hears_33 : decode b_Mod_hears 33 = .ok (.iconst 0, 1) := by decide +kernel
theorem d_Mod_hears_34 : decode b_Mod_hears 34 = .ok (.ireturn, 1) := by decide +kernel
theorem d_Mod_hears_35 : decode b_Mod_hears 35 = .ok (.aload_n 1, 1) := by decide +kernel
theorem d_Mod_hears_36 : decode b_Mod_hears 36 = .ok (.iconst 3, 1) := by decide +kernel
theorem d_Mod_hears_37 : decode b_Mod_hears 37 = .ok (.iaload, 1) := by decide +kernel
theorem d_Mod_hears_38 : decode b_Mod_hears 38 = .ok (.iconst 1, 1) := by decide +kernel
theorem d_Mod_hears_39 : decode b_Mod_hears 39 = .ok (.if_icmp .ne 29, 3) := by decide +kernel
theorem d_Mod_hears_42 : decode b_Mod_hears 42 = .ok (.aload_n 0, 1) := by decide +kernel
theorem d_Mod_hears_43 : decode b_Mod_hears 43 = .ok (.getfield 74, 3) := by decide +kernel
theorem d_Mod_hears_46 : decode b_Mod_hears 46 = .ok (.iload_n 2, 1) := by decide +kernel
theorem d_Mod_hears_47 : decode b_Mod_hears 47 = .ok (.aload_n 1, 1) := by decide +kernel
theorem d_Mod_hears_48 : decode b_Mod_hears 48 = .ok (.iconst 4, 1) := by decide +kernel
theorem d_Mod_hears_49 : decode b_Mod_hears 49 = .ok (.iaload, 1) := by decide +kernel
theorem d_Mod_hears_50 : decode b_Mod_hears 50 = .ok (.iastore, 1) := by decide +kernel
theorem d_Mod_hears_51 : decode b_Mod_hears 51 = .ok (.aload_n 0, 1) := by decide +kernel
theorem d_Mod_hears_52 : decode b_Mod_hears 52 = .ok (.getfield 77, 3) := by decide +kernel
theorem d_Mod_hears_55 : decode b_Mod_hears 55 = .ok (.iload_n 2, 1) := by decide +kernel
theorem d_Mod_hears_56 : decode b_Mod_hears 56 = .ok (.aload_n 1, 1) := by decide +kernel
theorem d_Mod_hears_57 : decode b_Mod_hears 57 = .ok (.bipush 6, 2) := by decide +kernel
theorem d_Mod_hears_59 : decode b_Mod_hears 59 = .ok (.iaload, 1) := by decide +kernel
theorem d_Mod_hears_60 : decode b_Mod_hears 60 = .ok (.iastore, 1) := by decide +kernel
theorem d_Mod_hears_61 : decode b_Mod_hears 61 = .ok (.aload_n 0, 1) := by decide +kernel
theorem d_Mod_hears_62 : decode b_Mod_hears 62 = .ok (.aload_n 1, 1) := by decide +kernel
theorem d_Mod_hears_63 : decode b_Mod_hears 63 = .ok (.iconst 4, 1) := by decide +kernel
theorem d_Mod_hears_64 : decode b_Mod_hears 64 = .ok (.iaload, 1) := by decide +kernel
theorem d_Mod_hears_65 : decode b_Mod_hears 65 = .ok (.invokevirtual 175, 3) := by decide +kernel
theorem d_Mod_hears_68 : decode b_Mod_hears 68 = .ok (.iconst 1, 1) := by decide +kernel
theorem d_Mod_hears_69 : decode b_Mod_hears 69 = .ok (.ireturn, 1) := by decide +kernel
theorem d_Mod_hears_70 : decode b_Mod_hears 70 = .ok (.aload_n 0, 1) := by decide +kernel
theorem d_Mod_hears_71 : decode b_Mod_hears 71 = .ok (.getfield 7, 3) := by decide +kernel
theorem d_Mod_hears_74 : decode b_Mod_hears 74 = .ok (.iload_n 2, 1) := by decide +kernel
theorem d_Mod_hears_75 : decode b_Mod_hears 75 = .ok (.iaload, 1) := by decide +kernel
theorem d_Mod_hears_76 : decode b_Mod_hears 76 = .ok (.iconst 2, 1) := by decide +kernel
theorem d_Mod_hears_77 : decode b_Mod_hears 77 = .ok (.if_icmp .eq 13, 3) := by decide +kernel
theorem d_Mod_hears_80 : decode b_Mod_hears 80 = .ok (.aload_n 0, 1) := by decide +kernel
theorem d_Mod_hears_81 : decode b_Mod_hears 81 = .ok (.getfield 7, 3) := by decide +kernel
theorem d_Mod_hears_84 : decode b_Mod_hears 84 = .ok (.iload_n 2, 1) := by decide +kernel
theorem d_Mod_hears_85 : decode b_Mod_hears 85 = .ok (.iaload, 1) := by decide +kernel
theorem d_Mod_hears_86 : decode b_Mod_hears 86 = .ok (.iconst 3, 1) := by decide +kernel
theorem d_Mod_hears_87 : decode b_Mod_hears 87 = .ok (.if_icmp .ne 7, 3) := by decide +kernel
theorem d_Mod_hears_90 : decode b_Mod_hears 90 = .ok (.iconst 1, 1) := by decide +kernel
theorem d_Mod_hears_91 : decode b_Mod_hears 91 = .ok (.goto 4, 3) := by decide +kernel
theorem d_Mod_hears_94 : decode b_Mod_hears 94 = .ok (.iconst 0, 1) := by decide +kernel
theorem d_Mod_hears_95 : decode b_Mod_hears 95 = .ok (.istore_n 3, 1) := by decide +kernel
theorem d_Mod_hears_96 : decode b_Mod_hears 96 = .ok (.aload_n 1, 1) := by decide +kernel
theorem d_Mod_hears_97 : decode b_Mod_hears 97 = .ok (.iconst 0, 1) := by decide +kernel
theorem d_Mod_hears_98 : decode b_Mod_hears 98 = .ok (.iaload, 1) := by decide +kernel
theorem d_Mod_hears_99 : decode b_Mod_hears 99 = .ok (.ifCond .ne 10, 3) := by decide +kernel
theorem d_Mod_hears_102 : decode b_Mod_hears 102 = .ok (.iload_n 3, 1) := by decide +kernel
theorem d_Mod_hears_103 : decode b_Mod_hears 103 = .ok (.ifCond .ne 17, 3) := by decide +kernel
theorem d_Mod_hears_106 : decode b_Mod_hears 106 = .ok (.goto 12, 3) := by decide +kernel
theorem d_Mod_hears_109 : decode b_Mod_hears 109 = .ok (.aload_n 0, 1) := by decide +kernel
theorem d_Mod_hears_110 : decode b_Mod_hears 110 = .ok (.getfield 7, 3) := by decide +kernel
theorem d_Mod_hears_113 : decode b_Mod_hears 113 = .ok (.iload_n 2, 1) := by decide +kernel
theorem d_Mod_hears_114 : decode b_Mod_hears 114 = .ok (.iaload, 1) := by decide +kernel
theorem d_Mod_hears_115 : decode b_Mod_hears 115 = .ok (.ifCond .ne 5, 3) := by decide +kernel
theorem d_Mod_hears_118 : decode b_Mod_hears 118 = .ok (.iconst 0, 1) := by decide +kernel
theorem d_Mod_hears_119 : decode b_Mod_hears 119 = .ok (.ireturn, 1) := by decide +kernel
theorem d_Mod_hears_120 : decode b_Mod_hears 120 = .ok (.aload_n 1, 1) := by decide +kernel
theorem d_Mod_hears_121 : decode b_Mod_hears 121 = .ok (.iconst 0, 1) := by decide +kernel
theorem d_Mod_hears_122 : decode b_Mod_hears 122 = .ok (.iaload, 1) := by decide +kernel
theorem d_Mod_hears_123 : decode b_Mod_hears 123 = .ok (.iconst 2, 1) := by decide +kernel
theorem d_Mod_hears_124 : decode b_Mod_hears 124 = .ok (.if_icmp .ne 14, 3) := by decide +kernel
theorem d_Mod_hears_127 : decode b_Mod_hears 127 = .ok (.aload_n 0, 1) := by decide +kernel
theorem d_Mod_hears_128 : decode b_Mod_hears 128 = .ok (.iload_n 2, 1) := by decide +kernel
theorem d_Mod_hears_129 : decode b_Mod_hears 129 = .ok (.aload_n 1, 1) := by decide +kernel
theorem d_Mod_hears_130 : decode b_Mod_hears 130 = .ok (.iconst 5, 1) := by decide +kernel
theorem d_Mod_hears_131 : decode b_Mod_hears 131 = .ok (.iaload, 1) := by decide +kernel
theorem d_Mod_hears_132 : decode b_Mod_hears 132 = .ok (.invokevirtual 178, 3) := by decide +kernel
theorem d_Mod_hears_135 : decode b_Mod_hears 135 = .ok (.goto 101, 3) := by decide +kernel
theorem d_Mod_hears_138 : decode b_Mod_hears 138 = .ok (.aload_n 1, 1) := by decide +kernel
theorem d_Mod_hears_139 : decode b_Mod_hears 139 = .ok (.iconst 0, 1) := by decide +kernel
theorem d_Mod_hears_140 : decode b_Mod_hears 140 = .ok (.iaload, 1) := by decide +kernel
theorem d_Mod_hears_141 : decode b_Mod_hears 141 = .ok (.iconst 3, 1) := by decide +kernel
theorem d_Mod_hears_142 : decode b_Mod_hears 142 = .ok (.if_icmp .ne 12, 3) := by decide +kernel
theorem d_Mod_hears_145 : decode b_Mod_hears 145 = .ok (.aload_n 0, 1) := by decide +kernel
theorem d_Mod_hears_146 : decode b_Mod_hears 146 = .ok (.iload_n 2, 1) := by decide +kernel
theorem d_Mod_hears_147 : decode b_Mod_hears 147 = .ok (.aload_n 1, 1) := by decide +kernel
theorem d_Mod_hears_148 : decode b_Mod_hears 148 = .ok (.invokevirtual 181, 3) := by decide +kernel
theorem d_Mod_hears_151 : decode b_Mod_hears 151 = .ok (.goto 85, 3) := by decide +kernel
theorem d_Mod_hears_154 : decode b_Mod_hears 154 = .ok (.aload_n 1, 1) := by decide +kernel
theorem d_Mod_hears_155 : decode b_Mod_hears 155 = .ok (.iconst 0, 1) := by decide +kernel
theorem d_Mod_hears_156 : decode b_Mod_hears 156 = .ok (.iaload, 1) := by decide +kernel
theorem d_Mod_hears_157 : decode b_Mod_hears 157 = .ok (.iconst 4, 1) := by decide +kernel
theorem d_Mod_hears_158 : decode b_Mod_hears 158 = .ok (.if_icmp .ne 12, 3) := by decide +kernel
theorem d_Mod_hears_161 : decode b_Mod_hears 161 = .ok (.aload_n 0, 1) := by decide +kernel
theorem d_Mod_hears_162 : decode b_Mod_hears 162 = .ok (.iload_n 2, 1) := by decide +kernel
theorem d_Mod_hears_163 : decode b_Mod_hears 163 = .ok (.aload_n 1, 1) := by decide +kernel
theorem d_Mod_hears_164 : decode b_Mod_hears 164 = .ok (.invokevirtual 185, 3) := by decide +kernel
theorem d_Mod_hears_167 : decode b_Mod_hears 167 = .ok (.goto 69, 3) := by decide +kernel
theorem d_Mod_hears_170 : decode b_Mod_hears 170 = .ok (.aload_n 1, 1) := by decide +kernel
theorem d_Mod_hears_171 : decode b_Mod_hears 171 = .ok (.iconst 3, 1) := by decide +kernel
theorem d_Mod_hears_172 : decode b_Mod_hears 172 = .ok (.iaload, 1) := by decide +kernel
theorem d_Mod_hears_173 : decode b_Mod_hears 173 = .ok (.ifCond .ne 21, 3) := by decide +kernel
theorem d_Mod_hears_176 : decode b_Mod_hears 176 = .ok (.aload_n 0, 1) := by decide +kernel
theorem d_Mod_hears_177 : decode b_Mod_hears 177 = .ok (.iload_n 2, 1) := by decide +kernel
theorem d_Mod_hears_178 : decode b_Mod_hears 178 = .ok (.aload_n 1, 1) := by decide +kernel
theorem d_Mod_hears_179 : decode b_Mod_hears 179 = .ok (.iconst 2, 1) := by decide +kernel
theorem d_Mod_hears_180 : decode b_Mod_hears 180 = .ok (.iaload, 1) := by decide +kernel
theorem d_Mod_hears_181 : decode b_Mod_hears 181 = .ok (.aload_n 1, 1) := by decide +kernel
theorem d_Mod_hears_182 : decode b_Mod_hears 182 = .ok (.iconst 5, 1) := by decide +kernel
theorem d_Mod_hears_183 : decode b_Mod_hears 183 = .ok (.iaload, 1) := by decide +kernel
theorem d_Mod_hears_184 : decode b_Mod_hears 184 = .ok (.aload_n 1, 1) := by decide +kernel
theorem d_Mod_hears_185 : decode b_Mod_hears 185 = .ok (.bipush 6, 2) := by decide +kernel
theorem d_Mod_hears_187 : decode b_Mod_hears 187 = .ok (.iaload, 1) := by decide +kernel
theorem d_Mod_hears_188 : decode b_Mod_hears 188 = .ok (.invokevirtual 188, 3) := by decide +kernel
theorem d_Mod_hears_191 : decode b_Mod_hears 191 = .ok (.goto 45, 3) := by decide +kernel
theorem d_Mod_hears_194 : decode b_Mod_hears 194 = .ok (.aload_n 1, 1) := by decide +kernel
theorem d_Mod_hears_195 : decode b_Mod_hears 195 = .ok (.iconst 3, 1) := by decide +kernel
theorem d_Mod_hears_196 : decode b_Mod_hears 196 = .ok (.iaload, 1) := by decide +kernel
theorem d_Mod_hears_197 : decode b_Mod_hears 197 = .ok (.iconst 1, 1) := by decide +kernel
theorem d_Mod_hears_198 : decode b_Mod_hears 198 = .ok (.if_icmp .ne 24, 3) := by decide +kernel
theorem d_Mod_hears_201 : decode b_Mod_hears 201 = .ok (.aload_n 0, 1) := by decide +kernel
theorem d_Mod_hears_202 : decode b_Mod_hears 202 = .ok (.iload_n 2, 1) := by decide +kernel
theorem d_Mod_hears_203 : decode b_Mod_hears 203 = .ok (.aload_n 1, 1) := by decide +kernel
theorem d_Mod_hears_204 : decode b_Mod_hears 204 = .ok (.iconst 2, 1) := by decide +kernel
theorem d_Mod_hears_205 : decode b_Mod_hears 205 = .ok (.iaload, 1) := by decide +kernel
theorem d_Mod_hears_206 : decode b_Mod_hears 206 = .ok (.aload_n 1, 1) := by decide +kernel
theorem d_Mod_hears_207 : decode b_Mod_hears 207 = .ok (.iconst 4, 1) := by decide +kernel
theorem d_Mod_hears_208 : decode b_Mod_hears 208 = .ok (.iaload, 1) := by decide +kernel
theorem d_Mod_hears_209 : decode b_Mod_hears 209 = .ok (.aload_n 1, 1) := by decide +kernel
theorem d_Mod_hears_210 : decode b_Mod_hears 210 = .ok (.iconst 5, 1) := by decide +kernel
theorem d_Mod_hears_211 : decode b_Mod_hears 211 = .ok (.iaload, 1) := by decide +kernel
theorem d_Mod_hears_212 : decode b_Mod_hears 212 = .ok (.aload_n 1, 1) := by decide +kernel
theorem d_Mod_hears_213 : decode b_Mod_hears 213 = .ok (.bipush 6, 2) := by decide +kernel
theorem d_Mod_hears_215 : decode b_Mod_hears 215 = .ok (.iaload, 1) := by decide +kernel
theorem d_Mod_hears_216 : decode b_Mod_hears 216 = .ok (.invokevirtual 132, 3) := by decide +kernel
theorem d_Mod_hears_219 : decode b_Mod_hears 219 = .ok (.goto 17, 3) := by decide +kernel
theorem d_Mod_hears_222 : decode b_Mod_hears 222 = .ok (.aload_n 0, 1) := by decide +kernel
theorem d_Mod_hears_223 : decode b_Mod_hears 223 = .ok (.iload_n 2, 1) := by decide +kernel
theorem d_Mod_hears_224 : decode b_Mod_hears 224 = .ok (.aload_n 1, 1) := by decide +kernel
theorem d_Mod_hears_225 : decode b_Mod_hears 225 = .ok (.iconst 2, 1) := by decide +kernel
theorem d_Mod_hears_226 : decode b_Mod_hears 226 = .ok (.iaload, 1) := by decide +kernel
theorem d_Mod_hears_227 : decode b_Mod_hears 227 = .ok (.aload_n 1, 1) := by decide +kernel
theorem d_Mod_hears_228 : decode b_Mod_hears 228 = .ok (.iconst 4, 1) := by decide +kernel
theorem d_Mod_hears_229 : decode b_Mod_hears 229 = .ok (.iaload, 1) := by decide +kernel
theorem d_Mod_hears_230 : decode b_Mod_hears 230 = .ok (.aload_n 1, 1) := by decide +kernel
theorem d_Mod_hears_231 : decode b_Mod_hears 231 = .ok (.iconst 5, 1) := by decide +kernel
theorem d_Mod_hears_232 : decode b_Mod_hears 232 = .ok (.iaload, 1) := by decide +kernel
theorem d_Mod_hears_233 : decode b_Mod_hears 233 = .ok (.invokevirtual 191, 3) := by decide +kernel
theorem d_Mod_hears_236 : decode b_Mod_hears 236 = .ok (.iconst 1, 1) := by decide +kernel
theorem d_Mod_hears_237 : decode b_Mod_hears 237 = .ok (.ireturn, 1) := by decide +kernel
set_option maxRecDepth 100000 in
set_option maxHeartbeats 4000000 in
theorem c_Mod_hears (l : Launch) (K : Kx) (V : Vx) (A B C D : MI) (P : MP) (ms : MSt K V P) (n : Nat) (ld sk : Int32) (hf : MF C n ld sk) (N : List Msg) (hm : MN D N) (x : Msg) (hrd : ∀ w, w < 14 → D 75 w = x w) (hvm : VMsg n x) (hk3 : x 0 = 3 → x 3 = 0 ∨ x 3 = 1 ∨ x 3 = 2 ∨ x 3 = 3 ∨ x 3 = 4) (h30 : ∀ c, c < 16 → (C 30 c = -1 ↔ C 30 c < 0)) (z0 : Zc C) : Ct l K md_Mod_hears (5, 127) 0 0 [.ref (K.ad 6 0), .ref (K.aad 38)] V (bk4 A B C D) P (MQ_ V A B P (some (.int (dlR C x))) (dlA C n ld x) D (dlN C n ld x N)) := by
  refine ct_of [(0, .ref (K.ad 6 0)), (1, .ref (K.aad 38))] (by decide) (Nat.le_of_ble_eq_true rfl) (ca_r (ca_r ca_n)) rfl ?_
  intro X hl hX
  have h : OkX X b_Mod_hears R_Mod K := hX.1
  have hN : X.nL = 4 := hX.2.1
  have hmv := ms.1
  have hn32 := hf.1
  rcases hvm with ⟨h0, s, c, hs, hc, hx1, hx2, hk⟩ | ⟨h0, c, hc, hx1, hk⟩ | ⟨h0, s, hs, hx1⟩ | ⟨h0, s, a, hs, ha, hx1, hx4, hx11⟩
  · rcases hk with hk | ⟨hk | hk, a, ha, hx4⟩
    · have hcl : (x 1).toNatClampNeg = s := by rw [hx1]; exact nI_clamp (by omega)
      have eR : dlR C x = hrs C s (x 0) := by unfold dlR; rw [if_neg (by rw [h0]; decide), hcl]
      refine j_aload_n h d_Mod_hears_0 rfl ?_
      refine j_iconst (v := 1) h d_Mod_hears_1 (by decide) ?_
      refine m_iald3e (a := 38) (L := 14) (j := 1) (v := nI s) h ms d_Mod_hears_2 (by decide) rfl (by decide) rfl rfl (by omega) ((hrd 1 (by decide)).trans hx1) ?_
      refine j_istore_n h d_Mod_hears_3 (Nat.lt_of_lt_of_eq (m := 4) (by decide) hN.symm) ?_
      refine j_aload_n h d_Mod_hears_4 rfl ?_
      refine j_iconst (v := 0) h d_Mod_hears_5 (by decide) ?_
      refine m_iald3e (a := 38) (L := 14) (j := 0) (v := 0) h ms d_Mod_hears_6 (by decide) rfl (by decide) rfl rfl (by omega) ((hrd 0 (by decide)).trans h0) ?_
      refine j_iconst (v := 1) h d_Mod_hears_7 (by decide) ?_
      refine j_ic_ne (tgt := 70) h d_Mod_hears_8 (by decide) (fun c1 => ?_) (fun c1 => absurd c1 (by decide))
      refine j_aload_n h d_Mod_hears_70 rfl ?_
      refine j_getR h d_Mod_hears_71 fl_Mod_7 rfl (by assumption) (mP ms (a := 10) (by decide)) ?_
      refine j_iload_n h d_Mod_hears_74 rfl ?_
      refine m_iald2 (a := 10) (L := 2) (j := s) h ms d_Mod_hears_75 (by decide) rfl (by decide) rfl rfl (by omega) ?_
      refine j_iconst (v := 2) h d_Mod_hears_76 (by decide) ?_
      refine j_ic_eq (tgt := 90) h d_Mod_hears_77 (by decide) (fun c2 => ?_) (fun c2 => ?_)
      · refine j_iconst (v := 1) h d_Mod_hears_90 (by decide) ?_
        refine j_goto (tgt := 95) h d_Mod_hears_91 (by decide) ?_
        refine j_istore_n h d_Mod_hears_95 (Nat.lt_of_lt_of_eq (m := 4) (by decide) hN.symm) ?_
        refine j_aload_n h d_Mod_hears_96 rfl ?_
        refine j_iconst (v := 0) h d_Mod_hears_97 (by decide) ?_
        refine m_iald3e (a := 38) (L := 14) (j := 0) (v := 0) h ms d_Mod_hears_98 (by decide) rfl (by decide) rfl rfl (by omega) ((hrd 0 (by decide)).trans h0) ?_
        refine j_if_ne (tgt := 109) h d_Mod_hears_99 (by decide) (fun c3 => absurd c3 (by decide)) (fun c3 => ?_)
        refine j_iload_n h d_Mod_hears_102 rfl ?_
        refine j_if_ne (tgt := 120) h d_Mod_hears_103 (by decide) (fun c4 => ?_) (fun c4 => absurd c4 (by decide))
        have hr1 : hrs C s (x 0) = 1 := by unfold hrs; rw [h0]; exact b01_t (by clear hX h hl; first | (simp_all; done) | grind)
        have ha0 : ¬ C 0 s = 0 := by clear hX h hl; first | (simp_all; done) | grind
        rw [eR, hr1, show dlA C n ld x = hnwA C s n ld (clk C s) x by unfold dlA; rw [if_neg (by rw [h0]; decide), hcl, if_neg (by rw [hr1]; decide), if_pos h0, if_neg (by rw [hk]; decide), if_neg (by rw [hk]; decide)], show dlN C n ld x N = hnwN C s n ld (clk C s) x N by unfold dlN; rw [if_neg (by rw [h0]; decide), hcl, if_neg (by rw [hr1]; decide), if_pos h0, if_neg (by rw [hk]; decide), if_neg (by rw [hk]; decide)]] at hX
        refine j_aload_n h d_Mod_hears_120 rfl ?_
        refine j_iconst (v := 0) h d_Mod_hears_121 (by decide) ?_
        refine m_iald3e (a := 38) (L := 14) (j := 0) (v := 0) h ms d_Mod_hears_122 (by decide) rfl (by decide) rfl rfl (by omega) ((hrd 0 (by decide)).trans h0) ?_
        refine j_iconst (v := 2) h d_Mod_hears_123 (by decide) ?_
        refine j_ic_ne (tgt := 138) h d_Mod_hears_124 (by decide) (fun c5 => ?_) (fun c5 => absurd c5 (by decide))
        refine j_aload_n h d_Mod_hears_138 rfl ?_
        refine j_iconst (v := 0) h d_Mod_hears_139 (by decide) ?_
        refine m_iald3e (a := 38) (L := 14) (j := 0) (v := 0) h ms d_Mod_hears_140 (by decide) rfl (by decide) rfl rfl (by omega) ((hrd 0 (by decide)).trans h0) ?_
        refine j_iconst (v := 3) h d_Mod_hears_141 (by decide) ?_
        refine j_ic_ne (tgt := 154) h d_Mod_hears_142 (by decide) (fun c6 => ?_) (fun c6 => absurd c6 (by decide))
        refine j_aload_n h d_Mod_hears_154 rfl ?_
        refine j_iconst (v := 0) h d_Mod_hears_155 (by decide) ?_
        refine m_iald3e (a := 38) (L := 14) (j := 0) (v := 0) h ms d_Mod_hears_156 (by decide) rfl (by decide) rfl rfl (by omega) ((hrd 0 (by decide)).trans h0) ?_
        refine j_iconst (v := 4) h d_Mod_hears_157 (by decide) ?_
        refine j_ic_ne (tgt := 170) h d_Mod_hears_158 (by decide) (fun c7 => ?_) (fun c7 => absurd c7 (by decide))
        refine j_aload_n h d_Mod_hears_170 rfl ?_
        refine j_iconst (v := 3) h d_Mod_hears_171 (by decide) ?_
        refine m_iald3e (a := 38) (L := 14) (j := 3) (v := 0) h ms d_Mod_hears_172 (by decide) rfl (by decide) rfl rfl (by omega) ((hrd 3 (by decide)).trans hk) ?_
        refine j_if_ne (tgt := 194) h d_Mod_hears_173 (by decide) (fun c8 => absurd c8 (by decide)) (fun c8 => ?_)
        refine j_aload_n h d_Mod_hears_176 rfl ?_
        refine j_iload_n h d_Mod_hears_177 rfl ?_
        refine j_aload_n h d_Mod_hears_178 rfl ?_
        refine j_iconst (v := 2) h d_Mod_hears_179 (by decide) ?_
        refine m_iald3e (a := 38) (L := 14) (j := 2) (v := x 2) h ms d_Mod_hears_180 (by decide) rfl (by decide) rfl rfl (by omega) (hrd 2 (by decide)) ?_
        refine j_aload_n h d_Mod_hears_181 rfl ?_
        refine j_iconst (v := 5) h d_Mod_hears_182 (by decide) ?_
        refine m_iald3e (a := 38) (L := 14) (j := 5) (v := x 5) h ms d_Mod_hears_183 (by decide) rfl (by decide) rfl rfl (by omega) (hrd 5 (by decide)) ?_
        refine j_aload_n h d_Mod_hears_184 rfl ?_
        refine j_bipush (v := 6) h d_Mod_hears_185 (by decide) ?_
        refine m_iald3e (a := 38) (L := 14) (j := 6) (v := x 6) h ms d_Mod_hears_187 (by decide) rfl (by decide) rfl rfl (by omega) (hrd 6 (by decide)) ?_
        refine j_callV h (c_Mod_hearNew _ _ _ _ _ _ _ _ ms _ hs _ _ _ hf _ hm x ha0) d_Mod_hears_188 ml_Mod_188 mv_Mod_hearNew (by assumption) ⟨rfl, rfl⟩ rfl rfl (Nat.le_of_ble_eq_true rfl) (hR_of hX (by decide) (by decide)) (hf_of hX (by decide) (by decide)) ?_
        rintro V3 _ _ P3 ⟨rfl, rfl, rfl, D3, rfl, hq3, hm3⟩
        refine j_goto (tgt := 236) h d_Mod_hears_191 (by decide) ?_
        refine j_iconst (v := 1) h d_Mod_hears_236 (by decide) ?_
        exact j_zret hX d_Mod_hears_237 rfl (Or.inr rfl) (Nat.le_refl _) (Nat.le_refl _) ⟨rfl, rfl, rfl, D3, rfl, hq3, hm3⟩
      · refine j_aload_n h d_Mod_hears_80 rfl ?_
        refine j_getR h d_Mod_hears_81 fl_Mod_7 rfl (by assumption) (mP ms (a := 10) (by decide)) ?_
        refine j_iload_n h d_Mod_hears_84 rfl ?_
        refine m_iald2 (a := 10) (L := 2) (j := s) h ms d_Mod_hears_85 (by decide) rfl (by decide) rfl rfl (by omega) ?_
        refine j_iconst (v := 3) h d_Mod_hears_86 (by decide) ?_
        refine j_ic_ne (tgt := 94) h d_Mod_hears_87 (by decide) (fun c9 => ?_) (fun c9 => ?_)
        · refine j_iconst (v := 0) h d_Mod_hears_94 (by decide) ?_
          refine j_istore_n h d_Mod_hears_95 (Nat.lt_of_lt_of_eq (m := 4) (by decide) hN.symm) ?_
          refine j_aload_n h d_Mod_hears_96 rfl ?_
          refine j_iconst (v := 0) h d_Mod_hears_97 (by decide) ?_
          refine m_iald3e (a := 38) (L := 14) (j := 0) (v := 0) h ms d_Mod_hears_98 (by decide) rfl (by decide) rfl rfl (by omega) ((hrd 0 (by decide)).trans h0) ?_
          refine j_if_ne (tgt := 109) h d_Mod_hears_99 (by decide) (fun c10 => absurd c10 (by decide)) (fun c10 => ?_)
          refine j_iload_n h d_Mod_hears_102 rfl ?_
          refine j_if_ne (tgt := 120) h d_Mod_hears_103 (by decide) (fun c11 => absurd c11 (by decide)) (fun c11 => ?_)
          refine j_goto (tgt := 118) h d_Mod_hears_106 (by decide) ?_
          have hr0 : hrs C s (x 0) = 0 := by unfold hrs; rw [h0]; exact b01_f (by clear hX h hl; first | (simp_all; done) | grind)
          rw [eR, hr0, show dlA C n ld x = C by unfold dlA; rw [if_neg (by rw [h0]; decide), hcl, if_pos hr0], show dlN C n ld x N = N by unfold dlN; rw [if_neg (by rw [h0]; decide), hcl, if_pos hr0]] at hX
          refine j_iconst (v := 0) h d_Mod_hears_118 (by decide) ?_
          exact j_zret hX d_Mod_hears_119 rfl (Or.inl rfl) (Nat.le_refl _) (Nat.le_refl _) ⟨rfl, rfl, rfl, D, rfl, DK.refl _, hm⟩
        · refine j_iconst (v := 1) h d_Mod_hears_90 (by decide) ?_
          refine j_goto (tgt := 95) h d_Mod_hears_91 (by decide) ?_
          refine j_istore_n h d_Mod_hears_95 (Nat.lt_of_lt_of_eq (m := 4) (by decide) hN.symm) ?_
          refine j_aload_n h d_Mod_hears_96 rfl ?_
          refine j_iconst (v := 0) h d_Mod_hears_97 (by decide) ?_
          refine m_iald3e (a := 38) (L := 14) (j := 0) (v := 0) h ms d_Mod_hears_98 (by decide) rfl (by decide) rfl rfl (by omega) ((hrd 0 (by decide)).trans h0) ?_
          refine j_if_ne (tgt := 109) h d_Mod_hears_99 (by decide) (fun c12 => absurd c12 (by decide)) (fun c12 => ?_)
          refine j_iload_n h d_Mod_hears_102 rfl ?_
          refine j_if_ne (tgt := 120) h d_Mod_hears_103 (by decide) (fun c13 => ?_) (fun c13 => absurd c13 (by decide))
          have hr1 : hrs C s (x 0) = 1 := by unfold hrs; rw [h0]; exact b01_t (by clear hX h hl; first | (simp_all; done) | grind)
          have ha0 : ¬ C 0 s = 0 := by clear hX h hl; first | (simp_all; done) | grind
          rw [eR, hr1, show dlA C n ld x = hnwA C s n ld (clk C s) x by unfold dlA; rw [if_neg (by rw [h0]; decide), hcl, if_neg (by rw [hr1]; decide), if_pos h0, if_neg (by rw [hk]; decide), if_neg (by rw [hk]; decide)], show dlN C n ld x N = hnwN C s n ld (clk C s) x N by unfold dlN; rw [if_neg (by rw [h0]; decide), hcl, if_neg (by rw [hr1]; decide), if_pos h0, if_neg (by rw [hk]; decide), if_neg (by rw [hk]; decide)]] at hX
          refine j_aload_n h d_Mod_hears_120 rfl ?_
          refine j_iconst (v := 0) h d_Mod_hears_121 (by decide) ?_
          refine m_iald3e (a := 38) (L := 14) (j := 0) (v := 0) h ms d_Mod_hears_122 (by decide) rfl (by decide) rfl rfl (by omega) ((hrd 0 (by decide)).trans h0) ?_
          refine j_iconst (v := 2) h d_Mod_hears_123 (by decide) ?_
          refine j_ic_ne (tgt := 138) h d_Mod_hears_124 (by decide) (fun c14 => ?_) (fun c14 => absurd c14 (by decide))
          refine j_aload_n h d_Mod_hears_138 rfl ?_
          refine j_iconst (v := 0) h d_Mod_hears_139 (by decide) ?_
          refine m_iald3e (a := 38) (L := 14) (j := 0) (v := 0) h ms d_Mod_hears_140 (by decide) rfl (by decide) rfl rfl (by omega) ((hrd 0 (by decide)).trans h0) ?_
          refine j_iconst (v := 3) h d_Mod_hears_141 (by decide) ?_
          refine j_ic_ne (tgt := 154) h d_Mod_hears_142 (by decide) (fun c15 => ?_) (fun c15 => absurd c15 (by decide))
          refine j_aload_n h d_Mod_hears_154 rfl ?_
          refine j_iconst (v := 0) h d_Mod_hears_155 (by decide) ?_
          refine m_iald3e (a := 38) (L := 14) (j := 0) (v := 0) h ms d_Mod_hears_156 (by decide) rfl (by decide) rfl rfl (by omega) ((hrd 0 (by decide)).trans h0) ?_
          refine j_iconst (v := 4) h d_Mod_hears_157 (by decide) ?_
          refine j_ic_ne (tgt := 170) h d_Mod_hears_158 (by decide) (fun c16 => ?_) (fun c16 => absurd c16 (by decide))
          refine j_aload_n h d_Mod_hears_170 rfl ?_
          refine j_iconst (v := 3) h d_Mod_hears_171 (by decide) ?_
          refine m_iald3e (a := 38) (L := 14) (j := 3) (v := 0) h ms d_Mod_hears_172 (by decide) rfl (by decide) rfl rfl (by omega) ((hrd 3 (by decide)).trans hk) ?_
          refine j_if_ne (tgt := 194) h d_Mod_hears_173 (by decide) (fun c17 => absurd c17 (by decide)) (fun c17 => ?_)
          refine j_aload_n h d_Mod_hears_176 rfl ?_
          refine j_iload_n h d_Mod_hears_177 rfl ?_
          refine j_aload_n h d_Mod_hears_178 rfl ?_
          refine j_iconst (v := 2) h d_Mod_hears_179 (by decide) ?_
          refine m_iald3e (a := 38) (L := 14) (j := 2) (v := x 2) h ms d_Mod_hears_180 (by decide) rfl (by decide) rfl rfl (by omega) (hrd 2 (by decide)) ?_
          refine j_aload_n h d_Mod_hears_181 rfl ?_
          refine j_iconst (v := 5) h d_Mod_hears_182 (by decide) ?_
          refine m_iald3e (a := 38) (L := 14) (j := 5) (v := x 5) h ms d_Mod_hears_183 (by decide) rfl (by decide) rfl rfl (by omega) (hrd 5 (by decide)) ?_
          refine j_aload_n h d_Mod_hears_184 rfl ?_
          refine j_bipush (v := 6) h d_Mod_hears_185 (by decide) ?_
          refine m_iald3e (a := 38) (L := 14) (j := 6) (v := x 6) h ms d_Mod_hears_187 (by decide) rfl (by decide) rfl rfl (by omega) (hrd 6 (by decide)) ?_
          refine j_callV h (c_Mod_hearNew _ _ _ _ _ _ _ _ ms _ hs _ _ _ hf _ hm x ha0) d_Mod_hears_188 ml_Mod_188 mv_Mod_hearNew (by assumption) ⟨rfl, rfl⟩ rfl rfl (Nat.le_of_ble_eq_true rfl) (hR_of hX (by decide) (by decide)) (hf_of hX (by decide) (by decide)) ?_
          rintro V3 _ _ P3 ⟨rfl, rfl, rfl, D3, rfl, hq3, hm3⟩
          refine j_goto (tgt := 236) h d_Mod_hears_191 (by decide) ?_
          refine j_iconst (v := 1) h d_Mod_hears_236 (by decide) ?_
          exact j_zret hX d_Mod_hears_237 rfl (Or.inr rfl) (Nat.le_refl _) (Nat.le_refl _) ⟨rfl, rfl, rfl, D3, rfl, hq3, hm3⟩
    · have hca : (x 4).toNatClampNeg = a := by rw [hx4]; exact nI_clamp (by omega)
      have hcl : (x 1).toNatClampNeg = s := by rw [hx1]; exact nI_clamp (by omega)
      have eR : dlR C x = hrs C s (x 0) := by unfold dlR; rw [if_neg (by rw [h0]; decide), hcl]
      refine j_aload_n h d_Mod_hears_0 rfl ?_
      refine j_iconst (v := 1) h d_Mod_hears_1 (by decide) ?_
      refine m_iald3e (a := 38) (L := 14) (j := 1) (v := nI s) h ms d_Mod_hears_2 (by decide) rfl (by decide) rfl rfl (by omega) ((hrd 1 (by decide)).trans hx1) ?_
      refine j_istore_n h d_Mod_hears_3 (Nat.lt_of_lt_of_eq (m := 4) (by decide) hN.symm) ?_
      refine j_aload_n h d_Mod_hears_4 rfl ?_
      refine j_iconst (v := 0) h d_Mod_hears_5 (by decide) ?_
      refine m_iald3e (a := 38) (L := 14) (j := 0) (v := 0) h ms d_Mod_hears_6 (by decide) rfl (by decide) rfl rfl (by omega) ((hrd 0 (by decide)).trans h0) ?_
      refine j_iconst (v := 1) h d_Mod_hears_7 (by decide) ?_
      refine j_ic_ne (tgt := 70) h d_Mod_hears_8 (by decide) (fun c1 => ?_) (fun c1 => absurd c1 (by decide))
      refine j_aload_n h d_Mod_hears_70 rfl ?_
      refine j_getR h d_Mod_hears_71 fl_Mod_7 rfl (by assumption) (mP ms (a := 10) (by decide)) ?_
      refine j_iload_n h d_Mod_hears_74 rfl ?_
      refine m_iald2 (a := 10) (L := 2) (j := s) h ms d_Mod_hears_75 (by decide) rfl (by decide) rfl rfl (by omega) ?_
      refine j_iconst (v := 2) h d_Mod_hears_76 (by decide) ?_
      refine j_ic_eq (tgt := 90) h d_Mod_hears_77 (by decide) (fun c2 => ?_) (fun c2 => ?_)
      · refine j_iconst (v := 1) h d_Mod_hears_90 (by decide) ?_
        refine j_goto (tgt := 95) h d_Mod_hears_91 (by decide) ?_
        refine j_istore_n h d_Mod_hears_95 (Nat.lt_of_lt_of_eq (m := 4) (by decide) hN.symm) ?_
        refine j_aload_n h d_Mod_hears_96 rfl ?_
        refine j_iconst (v := 0) h d_Mod_hears_97 (by decide) ?_
        refine m_iald3e (a := 38) (L := 14) (j := 0) (v := 0) h ms d_Mod_hears_98 (by decide) rfl (by decide) rfl rfl (by omega) ((hrd 0 (by decide)).trans h0) ?_
        refine j_if_ne (tgt := 109) h d_Mod_hears_99 (by decide) (fun c3 => absurd c3 (by decide)) (fun c3 => ?_)
        refine j_iload_n h d_Mod_hears_102 rfl ?_
        refine j_if_ne (tgt := 120) h d_Mod_hears_103 (by decide) (fun c4 => ?_) (fun c4 => absurd c4 (by decide))
        have hr1 : hrs C s (x 0) = 1 := by unfold hrs; rw [h0]; exact b01_t (by clear hX h hl; first | (simp_all; done) | grind)
        have ha0 : ¬ C 0 s = 0 := by clear hX h hl; first | (simp_all; done) | grind
        rw [eR, hr1, show dlA C n ld x = hrnA C s a ld (clk C s) x by unfold dlA; rw [if_neg (by rw [h0]; decide), hcl, if_neg (by rw [hr1]; decide), if_pos h0, if_neg (by rw [hk]; decide), if_pos hk, hca], show dlN C n ld x N = hrnN C s a ld (clk C s) x N by unfold dlN; rw [if_neg (by rw [h0]; decide), hcl, if_neg (by rw [hr1]; decide), if_pos h0, if_neg (by rw [hk]; decide), if_pos hk, hca]] at hX
        refine j_aload_n h d_Mod_hears_120 rfl ?_
        refine j_iconst (v := 0) h d_Mod_hears_121 (by decide) ?_
        refine m_iald3e (a := 38) (L := 14) (j := 0) (v := 0) h ms d_Mod_hears_122 (by decide) rfl (by decide) rfl rfl (by omega) ((hrd 0 (by decide)).trans h0) ?_
        refine j_iconst (v := 2) h d_Mod_hears_123 (by decide) ?_
        refine j_ic_ne (tgt := 138) h d_Mod_hears_124 (by decide) (fun c5 => ?_) (fun c5 => absurd c5 (by decide))
        refine j_aload_n h d_Mod_hears_138 rfl ?_
        refine j_iconst (v := 0) h d_Mod_hears_139 (by decide) ?_
        refine m_iald3e (a := 38) (L := 14) (j := 0) (v := 0) h ms d_Mod_hears_140 (by decide) rfl (by decide) rfl rfl (by omega) ((hrd 0 (by decide)).trans h0) ?_
        refine j_iconst (v := 3) h d_Mod_hears_141 (by decide) ?_
        refine j_ic_ne (tgt := 154) h d_Mod_hears_142 (by decide) (fun c6 => ?_) (fun c6 => absurd c6 (by decide))
        refine j_aload_n h d_Mod_hears_154 rfl ?_
        refine j_iconst (v := 0) h d_Mod_hears_155 (by decide) ?_
        refine m_iald3e (a := 38) (L := 14) (j := 0) (v := 0) h ms d_Mod_hears_156 (by decide) rfl (by decide) rfl rfl (by omega) ((hrd 0 (by decide)).trans h0) ?_
        refine j_iconst (v := 4) h d_Mod_hears_157 (by decide) ?_
        refine j_ic_ne (tgt := 170) h d_Mod_hears_158 (by decide) (fun c7 => ?_) (fun c7 => absurd c7 (by decide))
        refine j_aload_n h d_Mod_hears_170 rfl ?_
        refine j_iconst (v := 3) h d_Mod_hears_171 (by decide) ?_
        refine m_iald3e (a := 38) (L := 14) (j := 3) (v := 1) h ms d_Mod_hears_172 (by decide) rfl (by decide) rfl rfl (by omega) ((hrd 3 (by decide)).trans hk) ?_
        refine j_if_ne (tgt := 194) h d_Mod_hears_173 (by decide) (fun c8 => ?_) (fun c8 => absurd c8 (by decide))
        refine j_aload_n h d_Mod_hears_194 rfl ?_
        refine j_iconst (v := 3) h d_Mod_hears_195 (by decide) ?_
        refine m_iald3e (a := 38) (L := 14) (j := 3) (v := 1) h ms d_Mod_hears_196 (by decide) rfl (by decide) rfl rfl (by omega) ((hrd 3 (by decide)).trans hk) ?_
        refine j_iconst (v := 1) h d_Mod_hears_197 (by decide) ?_
        refine j_ic_ne (tgt := 222) h d_Mod_hears_198 (by decide) (fun c9 => absurd c9 (by decide)) (fun c9 => ?_)
        refine j_aload_n h d_Mod_hears_201 rfl ?_
        refine j_iload_n h d_Mod_hears_202 rfl ?_
        refine j_aload_n h d_Mod_hears_203 rfl ?_
        refine j_iconst (v := 2) h d_Mod_hears_204 (by decide) ?_
        refine m_iald3e (a := 38) (L := 14) (j := 2) (v := x 2) h ms d_Mod_hears_205 (by decide) rfl (by decide) rfl rfl (by omega) (hrd 2 (by decide)) ?_
        refine j_aload_n h d_Mod_hears_206 rfl ?_
        refine j_iconst (v := 4) h d_Mod_hears_207 (by decide) ?_
        refine m_iald3e (a := 38) (L := 14) (j := 4) (v := nI a) h ms d_Mod_hears_208 (by decide) rfl (by decide) rfl rfl (by omega) ((hrd 4 (by decide)).trans hx4) ?_
        refine j_aload_n h d_Mod_hears_209 rfl ?_
        refine j_iconst (v := 5) h d_Mod_hears_210 (by decide) ?_
        refine m_iald3e (a := 38) (L := 14) (j := 5) (v := x 5) h ms d_Mod_hears_211 (by decide) rfl (by decide) rfl rfl (by omega) (hrd 5 (by decide)) ?_
        refine j_aload_n h d_Mod_hears_212 rfl ?_
        refine j_bipush (v := 6) h d_Mod_hears_213 (by decide) ?_
        refine m_iald3e (a := 38) (L := 14) (j := 6) (v := x 6) h ms d_Mod_hears_215 (by decide) rfl (by decide) rfl rfl (by omega) (hrd 6 (by decide)) ?_
        refine j_callV h (c_Mod_hearRenew _ _ _ _ _ _ _ _ ms _ hs _ _ _ hf _ ha _ hm x ha0) d_Mod_hears_216 ml_Mod_132 mv_Mod_hearRenew (by assumption) ⟨rfl, rfl⟩ rfl rfl (Nat.le_of_ble_eq_true rfl) (hR_of hX (by decide) (by decide)) (hf_of hX (by decide) (by decide)) ?_
        rintro V3 _ _ P3 ⟨rfl, rfl, rfl, D3, rfl, hq3, hm3⟩
        refine j_goto (tgt := 236) h d_Mod_hears_219 (by decide) ?_
        refine j_iconst (v := 1) h d_Mod_hears_236 (by decide) ?_
        exact j_zret hX d_Mod_hears_237 rfl (Or.inr rfl) (Nat.le_refl _) (Nat.le_refl _) ⟨rfl, rfl, rfl, D3, rfl, hq3, hm3⟩
      · refine j_aload_n h d_Mod_hears_80 rfl ?_
        refine j_getR h d_Mod_hears_81 fl_Mod_7 rfl (by assumption) (mP ms (a := 10) (by decide)) ?_
        refine j_iload_n h d_Mod_hears_84 rfl ?_
        refine m_iald2 (a := 10) (L := 2) (j := s) h ms d_Mod_hears_85 (by decide) rfl (by decide) rfl rfl (by omega) ?_
        refine j_iconst (v := 3) h d_Mod_hears_86 (by decide) ?_
        refine j_ic_ne (tgt := 94) h d_Mod_hears_87 (by decide) (fun c10 => ?_) (fun c10 => ?_)
        · refine j_iconst (v := 0) h d_Mod_hears_94 (by decide) ?_
          refine j_istore_n h d_Mod_hears_95 (Nat.lt_of_lt_of_eq (m := 4) (by decide) hN.symm) ?_
          refine j_aload_n h d_Mod_hears_96 rfl ?_
          refine j_iconst (v := 0) h d_Mod_hears_97 (by decide) ?_
          refine m_iald3e (a := 38) (L := 14) (j := 0) (v := 0) h ms d_Mod_hears_98 (by decide) rfl (by decide) rfl rfl (by omega) ((hrd 0 (by decide)).trans h0) ?_
          refine j_if_ne (tgt := 109) h d_Mod_hears_99 (by decide) (fun c11 => absurd c11 (by decide)) (fun c11 => ?_)
          refine j_iload_n h d_Mod_hears_102 rfl ?_
          refine j_if_ne (tgt := 120) h d_Mod_hears_103 (by decide) (fun c12 => absurd c12 (by decide)) (fun c12 => ?_)
          refine j_goto (tgt := 118) h d_Mod_hears_106 (by decide) ?_
          have hr0 : hrs C s (x 0) = 0 := by unfold hrs; rw [h0]; exact b01_f (by clear hX h hl; first | (simp_all; done) | grind)
          rw [eR, hr0, show dlA C n ld x = C by unfold dlA; rw [if_neg (by rw [h0]; decide), hcl, if_pos hr0], show dlN C n ld x N = N by unfold dlN; rw [if_neg (by rw [h0]; decide), hcl, if_pos hr0]] at hX
          refine j_iconst (v := 0) h d_Mod_hears_118 (by decide) ?_
          exact j_zret hX d_Mod_hears_119 rfl (Or.inl rfl) (Nat.le_refl _) (Nat.le_refl _) ⟨rfl, rfl, rfl, D, rfl, DK.refl _, hm⟩
        · refine j_iconst (v := 1) h d_Mod_hears_90 (by decide) ?_
          refine j_goto (tgt := 95) h d_Mod_hears_91 (by decide) ?_
          refine j_istore_n h d_Mod_hears_95 (Nat.lt_of_lt_of_eq (m := 4) (by decide) hN.symm) ?_
          refine j_aload_n h d_Mod_hears_96 rfl ?_
          refine j_iconst (v := 0) h d_Mod_hears_97 (by decide) ?_
          refine m_iald3e (a := 38) (L := 14) (j := 0) (v := 0) h ms d_Mod_hears_98 (by decide) rfl (by decide) rfl rfl (by omega) ((hrd 0 (by decide)).trans h0) ?_
          refine j_if_ne (tgt := 109) h d_Mod_hears_99 (by decide) (fun c13 => absurd c13 (by decide)) (fun c13 => ?_)
          refine j_iload_n h d_Mod_hears_102 rfl ?_
          refine j_if_ne (tgt := 120) h d_Mod_hears_103 (by decide) (fun c14 => ?_) (fun c14 => absurd c14 (by decide))
          have hr1 : hrs C s (x 0) = 1 := by unfold hrs; rw [h0]; exact b01_t (by clear hX h hl; first | (simp_all; done) | grind)
          have ha0 : ¬ C 0 s = 0 := by clear hX h hl; first | (simp_all; done) | grind
          rw [eR, hr1, show dlA C n ld x = hrnA C s a ld (clk C s) x by unfold dlA; rw [if_neg (by rw [h0]; decide), hcl, if_neg (by rw [hr1]; decide), if_pos h0, if_neg (by rw [hk]; decide), if_pos hk, hca], show dlN C n ld x N = hrnN C s a ld (clk C s) x N by unfold dlN; rw [if_neg (by rw [h0]; decide), hcl, if_neg (by rw [hr1]; decide), if_pos h0, if_neg (by rw [hk]; decide), if_pos hk, hca]] at hX
          refine j_aload_n h d_Mod_hears_120 rfl ?_
          refine j_iconst (v := 0) h d_Mod_hears_121 (by decide) ?_
          refine m_iald3e (a := 38) (L := 14) (j := 0) (v := 0) h ms d_Mod_hears_122 (by decide) rfl (by decide) rfl rfl (by omega) ((hrd 0 (by decide)).trans h0) ?_
          refine j_iconst (v := 2) h d_Mod_hears_123 (by decide) ?_
          refine j_ic_ne (tgt := 138) h d_Mod_hears_124 (by decide) (fun c15 => ?_) (fun c15 => absurd c15 (by decide))
          refine j_aload_n h d_Mod_hears_138 rfl ?_
          refine j_iconst (v := 0) h d_Mod_hears_139 (by decide) ?_
          refine m_iald3e (a := 38) (L := 14) (j := 0) (v := 0) h ms d_Mod_hears_140 (by decide) rfl (by decide) rfl rfl (by omega) ((hrd 0 (by decide)).trans h0) ?_
          refine j_iconst (v := 3) h d_Mod_hears_141 (by decide) ?_
          refine j_ic_ne (tgt := 154) h d_Mod_hears_142 (by decide) (fun c16 => ?_) (fun c16 => absurd c16 (by decide))
          refine j_aload_n h d_Mod_hears_154 rfl ?_
          refine j_iconst (v := 0) h d_Mod_hears_155 (by decide) ?_
          refine m_iald3e (a := 38) (L := 14) (j := 0) (v := 0) h ms d_Mod_hears_156 (by decide) rfl (by decide) rfl rfl (by omega) ((hrd 0 (by decide)).trans h0) ?_
          refine j_iconst (v := 4) h d_Mod_hears_157 (by decide) ?_
          refine j_ic_ne (tgt := 170) h d_Mod_hears_158 (by decide) (fun c17 => ?_) (fun c17 => absurd c17 (by decide))
          refine j_aload_n h d_Mod_hears_170 rfl ?_
          refine j_iconst (v := 3) h d_Mod_hears_171 (by decide) ?_
          refine m_iald3e (a := 38) (L := 14) (j := 3) (v := 1) h ms d_Mod_hears_172 (by decide) rfl (by decide) rfl rfl (by omega) ((hrd 3 (by decide)).trans hk) ?_
          refine j_if_ne (tgt := 194) h d_Mod_hears_173 (by decide) (fun c18 => ?_) (fun c18 => absurd c18 (by decide))
          refine j_aload_n h d_Mod_hears_194 rfl ?_
          refine j_iconst (v := 3) h d_Mod_hears_195 (by decide) ?_
          refine m_iald3e (a := 38) (L := 14) (j := 3) (v := 1) h ms d_Mod_hears_196 (by decide) rfl (by decide) rfl rfl (by omega) ((hrd 3 (by decide)).trans hk) ?_
          refine j_iconst (v := 1) h d_Mod_hears_197 (by decide) ?_
          refine j_ic_ne (tgt := 222) h d_Mod_hears_198 (by decide) (fun c19 => absurd c19 (by decide)) (fun c19 => ?_)
          refine j_aload_n h d_Mod_hears_201 rfl ?_
          refine j_iload_n h d_Mod_hears_202 rfl ?_
          refine j_aload_n h d_Mod_hears_203 rfl ?_
          refine j_iconst (v := 2) h d_Mod_hears_204 (by decide) ?_
          refine m_iald3e (a := 38) (L := 14) (j := 2) (v := x 2) h ms d_Mod_hears_205 (by decide) rfl (by decide) rfl rfl (by omega) (hrd 2 (by decide)) ?_
          refine j_aload_n h d_Mod_hears_206 rfl ?_
          refine j_iconst (v := 4) h d_Mod_hears_207 (by decide) ?_
          refine m_iald3e (a := 38) (L := 14) (j := 4) (v := nI a) h ms d_Mod_hears_208 (by decide) rfl (by decide) rfl rfl (by omega) ((hrd 4 (by decide)).trans hx4) ?_
          refine j_aload_n h d_Mod_hears_209 rfl ?_
          refine j_iconst (v := 5) h d_Mod_hears_210 (by decide) ?_
          refine m_iald3e (a := 38) (L := 14) (j := 5) (v := x 5) h ms d_Mod_hears_211 (by decide) rfl (by decide) rfl rfl (by omega) (hrd 5 (by decide)) ?_
          refine j_aload_n h d_Mod_hears_212 rfl ?_
          refine j_bipush (v := 6) h d_Mod_hears_213 (by decide) ?_
          refine m_iald3e (a := 38) (L := 14) (j := 6) (v := x 6) h ms d_Mod_hears_215 (by decide) rfl (by decide) rfl rfl (by omega) (hrd 6 (by decide)) ?_
          refine j_callV h (c_Mod_hearRenew _ _ _ _ _ _ _ _ ms _ hs _ _ _ hf _ ha _ hm x ha0) d_Mod_hears_216 ml_Mod_132 mv_Mod_hearRenew (by assumption) ⟨rfl, rfl⟩ rfl rfl (Nat.le_of_ble_eq_true rfl) (hR_of hX (by decide) (by decide)) (hf_of hX (by decide) (by decide)) ?_
          rintro V3 _ _ P3 ⟨rfl, rfl, rfl, D3, rfl, hq3, hm3⟩
          refine j_goto (tgt := 236) h d_Mod_hears_219 (by decide) ?_
          refine j_iconst (v := 1) h d_Mod_hears_236 (by decide) ?_
          exact j_zret hX d_Mod_hears_237 rfl (Or.inr rfl) (Nat.le_refl _) (Nat.le_refl _) ⟨rfl, rfl, rfl, D3, rfl, hq3, hm3⟩
    · have hca : (x 4).toNatClampNeg = a := by rw [hx4]; exact nI_clamp (by omega)
      have hcl : (x 1).toNatClampNeg = s := by rw [hx1]; exact nI_clamp (by omega)
      have eR : dlR C x = hrs C s (x 0) := by unfold dlR; rw [if_neg (by rw [h0]; decide), hcl]
      refine j_aload_n h d_Mod_hears_0 rfl ?_
      refine j_iconst (v := 1) h d_Mod_hears_1 (by decide) ?_
      refine m_iald3e (a := 38) (L := 14) (j := 1) (v := nI s) h ms d_Mod_hears_2 (by decide) rfl (by decide) rfl rfl (by omega) ((hrd 1 (by decide)).trans hx1) ?_
      refine j_istore_n h d_Mod_hears_3 (Nat.lt_of_lt_of_eq (m := 4) (by decide) hN.symm) ?_
      refine j_aload_n h d_Mod_hears_4 rfl ?_
      refine j_iconst (v := 0) h d_Mod_hears_5 (by decide) ?_
      refine m_iald3e (a := 38) (L := 14) (j := 0) (v := 0) h ms d_Mod_hears_6 (by decide) rfl (by decide) rfl rfl (by omega) ((hrd 0 (by decide)).trans h0) ?_
      refine j_iconst (v := 1) h d_Mod_hears_7 (by decide) ?_
      refine j_ic_ne (tgt := 70) h d_Mod_hears_8 (by decide) (fun c1 => ?_) (fun c1 => absurd c1 (by decide))
      refine j_aload_n h d_Mod_hears_70 rfl ?_
      refine j_getR h d_Mod_hears_71 fl_Mod_7 rfl (by assumption) (mP ms (a := 10) (by decide)) ?_
      refine j_iload_n h d_Mod_hears_74 rfl ?_
      refine m_iald2 (a := 10) (L := 2) (j := s) h ms d_Mod_hears_75 (by decide) rfl (by decide) rfl rfl (by omega) ?_
      refine j_iconst (v := 2) h d_Mod_hears_76 (by decide) ?_
      refine j_ic_eq (tgt := 90) h d_Mod_hears_77 (by decide) (fun c2 => ?_) (fun c2 => ?_)
      · refine j_iconst (v := 1) h d_Mod_hears_90 (by decide) ?_
        refine j_goto (tgt := 95) h d_Mod_hears_91 (by decide) ?_
        refine j_istore_n h d_Mod_hears_95 (Nat.lt_of_lt_of_eq (m := 4) (by decide) hN.symm) ?_
        refine j_aload_n h d_Mod_hears_96 rfl ?_
        refine j_iconst (v := 0) h d_Mod_hears_97 (by decide) ?_
        refine m_iald3e (a := 38) (L := 14) (j := 0) (v := 0) h ms d_Mod_hears_98 (by decide) rfl (by decide) rfl rfl (by omega) ((hrd 0 (by decide)).trans h0) ?_
        refine j_if_ne (tgt := 109) h d_Mod_hears_99 (by decide) (fun c3 => absurd c3 (by decide)) (fun c3 => ?_)
        refine j_iload_n h d_Mod_hears_102 rfl ?_
        refine j_if_ne (tgt := 120) h d_Mod_hears_103 (by decide) (fun c4 => ?_) (fun c4 => absurd c4 (by decide))
        have hr1 : hrs C s (x 0) = 1 := by unfold hrs; rw [h0]; exact b01_t (by clear hX h hl; first | (simp_all; done) | grind)
        have ha0 : ¬ C 0 s = 0 := by clear hX h hl; first | (simp_all; done) | grind
        rw [eR, hr1, show dlA C n ld x = hrRel C (32 * s + a) s (x 2) (x 5) by unfold dlA; rw [if_neg (by rw [h0]; decide), hcl, if_neg (by rw [hr1]; decide), if_pos h0, if_pos hk, hca], show dlN C n ld x N = N by unfold dlN; rw [if_neg (by rw [h0]; decide), hcl, if_neg (by rw [hr1]; decide), if_pos h0, if_pos hk]] at hX
        refine j_aload_n h d_Mod_hears_120 rfl ?_
        refine j_iconst (v := 0) h d_Mod_hears_121 (by decide) ?_
        refine m_iald3e (a := 38) (L := 14) (j := 0) (v := 0) h ms d_Mod_hears_122 (by decide) rfl (by decide) rfl rfl (by omega) ((hrd 0 (by decide)).trans h0) ?_
        refine j_iconst (v := 2) h d_Mod_hears_123 (by decide) ?_
        refine j_ic_ne (tgt := 138) h d_Mod_hears_124 (by decide) (fun c5 => ?_) (fun c5 => absurd c5 (by decide))
        refine j_aload_n h d_Mod_hears_138 rfl ?_
        refine j_iconst (v := 0) h d_Mod_hears_139 (by decide) ?_
        refine m_iald3e (a := 38) (L := 14) (j := 0) (v := 0) h ms d_Mod_hears_140 (by decide) rfl (by decide) rfl rfl (by omega) ((hrd 0 (by decide)).trans h0) ?_
        refine j_iconst (v := 3) h d_Mod_hears_141 (by decide) ?_
        refine j_ic_ne (tgt := 154) h d_Mod_hears_142 (by decide) (fun c6 => ?_) (fun c6 => absurd c6 (by decide))
        refine j_aload_n h d_Mod_hears_154 rfl ?_
        refine j_iconst (v := 0) h d_Mod_hears_155 (by decide) ?_
        refine m_iald3e (a := 38) (L := 14) (j := 0) (v := 0) h ms d_Mod_hears_156 (by decide) rfl (by decide) rfl rfl (by omega) ((hrd 0 (by decide)).trans h0) ?_
        refine j_iconst (v := 4) h d_Mod_hears_157 (by decide) ?_
        refine j_ic_ne (tgt := 170) h d_Mod_hears_158 (by decide) (fun c7 => ?_) (fun c7 => absurd c7 (by decide))
        refine j_aload_n h d_Mod_hears_170 rfl ?_
        refine j_iconst (v := 3) h d_Mod_hears_171 (by decide) ?_
        refine m_iald3e (a := 38) (L := 14) (j := 3) (v := 2) h ms d_Mod_hears_172 (by decide) rfl (by decide) rfl rfl (by omega) ((hrd 3 (by decide)).trans hk) ?_
        refine j_if_ne (tgt := 194) h d_Mod_hears_173 (by decide) (fun c8 => ?_) (fun c8 => absurd c8 (by decide))
        refine j_aload_n h d_Mod_hears_194 rfl ?_
        refine j_iconst (v := 3) h d_Mod_hears_195 (by decide) ?_
        refine m_iald3e (a := 38) (L := 14) (j := 3) (v := 2) h ms d_Mod_hears_196 (by decide) rfl (by decide) rfl rfl (by omega) ((hrd 3 (by decide)).trans hk) ?_
        refine j_iconst (v := 1) h d_Mod_hears_197 (by decide) ?_
        refine j_ic_ne (tgt := 222) h d_Mod_hears_198 (by decide) (fun c9 => ?_) (fun c9 => absurd c9 (by decide))
        refine j_aload_n h d_Mod_hears_222 rfl ?_
        refine j_iload_n h d_Mod_hears_223 rfl ?_
        refine j_aload_n h d_Mod_hears_224 rfl ?_
        refine j_iconst (v := 2) h d_Mod_hears_225 (by decide) ?_
        refine m_iald3e (a := 38) (L := 14) (j := 2) (v := x 2) h ms d_Mod_hears_226 (by decide) rfl (by decide) rfl rfl (by omega) (hrd 2 (by decide)) ?_
        refine j_aload_n h d_Mod_hears_227 rfl ?_
        refine j_iconst (v := 4) h d_Mod_hears_228 (by decide) ?_
        refine m_iald3e (a := 38) (L := 14) (j := 4) (v := nI a) h ms d_Mod_hears_229 (by decide) rfl (by decide) rfl rfl (by omega) ((hrd 4 (by decide)).trans hx4) ?_
        refine j_aload_n h d_Mod_hears_230 rfl ?_
        refine j_iconst (v := 5) h d_Mod_hears_231 (by decide) ?_
        refine m_iald3e (a := 38) (L := 14) (j := 5) (v := x 5) h ms d_Mod_hears_232 (by decide) rfl (by decide) rfl rfl (by omega) (hrd 5 (by decide)) ?_
        refine j_callV h (c_Mod_hearRelease _ _ _ _ _ _ _ _ ms _ hs _ _ ha hn32 _ _) d_Mod_hears_233 ml_Mod_191 mv_Mod_hearRelease (by assumption) ⟨rfl, rfl⟩ rfl rfl (Nat.le_of_ble_eq_true rfl) (hR_of hX (by decide) (by decide)) (hf_of hX (by decide) (by decide)) ?_
        rintro _ _ _ _ ⟨rfl, rfl, rfl, rfl⟩
        refine j_iconst (v := 1) h d_Mod_hears_236 (by decide) ?_
        exact j_zret hX d_Mod_hears_237 rfl (Or.inr rfl) (Nat.le_refl _) (Nat.le_refl _) ⟨rfl, rfl, rfl, D, rfl, DK.refl _, hm⟩
      · refine j_aload_n h d_Mod_hears_80 rfl ?_
        refine j_getR h d_Mod_hears_81 fl_Mod_7 rfl (by assumption) (mP ms (a := 10) (by decide)) ?_
        refine j_iload_n h d_Mod_hears_84 rfl ?_
        refine m_iald2 (a := 10) (L := 2) (j := s) h ms d_Mod_hears_85 (by decide) rfl (by decide) rfl rfl (by omega) ?_
        refine j_iconst (v := 3) h d_Mod_hears_86 (by decide) ?_
        refine j_ic_ne (tgt := 94) h d_Mod_hears_87 (by decide) (fun c10 => ?_) (fun c10 => ?_)
        · refine j_iconst (v := 0) h d_Mod_hears_94 (by decide) ?_
          refine j_istore_n h d_Mod_hears_95 (Nat.lt_of_lt_of_eq (m := 4) (by decide) hN.symm) ?_
          refine j_aload_n h d_Mod_hears_96 rfl ?_
          refine j_iconst (v := 0) h d_Mod_hears_97 (by decide) ?_
          refine m_iald3e (a := 38) (L := 14) (j := 0) (v := 0) h ms d_Mod_hears_98 (by decide) rfl (by decide) rfl rfl (by omega) ((hrd 0 (by decide)).trans h0) ?_
          refine j_if_ne (tgt := 109) h d_Mod_hears_99 (by decide) (fun c11 => absurd c11 (by decide)) (fun c11 => ?_)
          refine j_iload_n h d_Mod_hears_102 rfl ?_
          refine j_if_ne (tgt := 120) h d_Mod_hears_103 (by decide) (fun c12 => absurd c12 (by decide)) (fun c12 => ?_)
          refine j_goto (tgt := 118) h d_Mod_hears_106 (by decide) ?_
          have hr0 : hrs C s (x 0) = 0 := by unfold hrs; rw [h0]; exact b01_f (by clear hX h hl; first | (simp_all; done) | grind)
          rw [eR, hr0, show dlA C n ld x = C by unfold dlA; rw [if_neg (by rw [h0]; decide), hcl, if_pos hr0], show dlN C n ld x N = N by unfold dlN; rw [if_neg (by rw [h0]; decide), hcl, if_pos hr0]] at hX
          refine j_iconst (v := 0) h d_Mod_hears_118 (by decide) ?_
          exact j_zret hX d_Mod_hears_119 rfl (Or.inl rfl) (Nat.le_refl _) (Nat.le_refl _) ⟨rfl, rfl, rfl, D, rfl, DK.refl _, hm⟩
        · refine j_iconst (v := 1) h d_Mod_hears_90 (by decide) ?_
          refine j_goto (tgt := 95) h d_Mod_hears_91 (by decide) ?_
          refine j_istore_n h d_Mod_hears_95 (Nat.lt_of_lt_of_eq (m := 4) (by decide) hN.symm) ?_
          refine j_aload_n h d_Mod_hears_96 rfl ?_
          refine j_iconst (v := 0) h d_Mod_hears_97 (by decide) ?_
          refine m_iald3e (a := 38) (L := 14) (j := 0) (v := 0) h ms d_Mod_hears_98 (by decide) rfl (by decide) rfl rfl (by omega) ((hrd 0 (by decide)).trans h0) ?_
          refine j_if_ne (tgt := 109) h d_Mod_hears_99 (by decide) (fun c13 => absurd c13 (by decide)) (fun c13 => ?_)
          refine j_iload_n h d_Mod_hears_102 rfl ?_
          refine j_if_ne (tgt := 120) h d_Mod_hears_103 (by decide) (fun c14 => ?_) (fun c14 => absurd c14 (by decide))
          have hr1 : hrs C s (x 0) = 1 := by unfold hrs; rw [h0]; exact b01_t (by clear hX h hl; first | (simp_all; done) | grind)
          have ha0 : ¬ C 0 s = 0 := by clear hX h hl; first | (simp_all; done) | grind
          rw [eR, hr1, show dlA C n ld x = hrRel C (32 * s + a) s (x 2) (x 5) by unfold dlA; rw [if_neg (by rw [h0]; decide), hcl, if_neg (by rw [hr1]; decide), if_pos h0, if_pos hk, hca], show dlN C n ld x N = N by unfold dlN; rw [if_neg (by rw [h0]; decide), hcl, if_neg (by rw [hr1]; decide), if_pos h0, if_pos hk]] at hX
          refine j_aload_n h d_Mod_hears_120 rfl ?_
          refine j_iconst (v := 0) h d_Mod_hears_121 (by decide) ?_
          refine m_iald3e (a := 38) (L := 14) (j := 0) (v := 0) h ms d_Mod_hears_122 (by decide) rfl (by decide) rfl rfl (by omega) ((hrd 0 (by decide)).trans h0) ?_
          refine j_iconst (v := 2) h d_Mod_hears_123 (by decide) ?_
          refine j_ic_ne (tgt := 138) h d_Mod_hears_124 (by decide) (fun c15 => ?_) (fun c15 => absurd c15 (by decide))
          refine j_aload_n h d_Mod_hears_138 rfl ?_
          refine j_iconst (v := 0) h d_Mod_hears_139 (by decide) ?_
          refine m_iald3e (a := 38) (L := 14) (j := 0) (v := 0) h ms d_Mod_hears_140 (by decide) rfl (by decide) rfl rfl (by omega) ((hrd 0 (by decide)).trans h0) ?_
          refine j_iconst (v := 3) h d_Mod_hears_141 (by decide) ?_
          refine j_ic_ne (tgt := 154) h d_Mod_hears_142 (by decide) (fun c16 => ?_) (fun c16 => absurd c16 (by decide))
          refine j_aload_n h d_Mod_hears_154 rfl ?_
          refine j_iconst (v := 0) h d_Mod_hears_155 (by decide) ?_
          refine m_iald3e (a := 38) (L := 14) (j := 0) (v := 0) h ms d_Mod_hears_156 (by decide) rfl (by decide) rfl rfl (by omega) ((hrd 0 (by decide)).trans h0) ?_
          refine j_iconst (v := 4) h d_Mod_hears_157 (by decide) ?_
          refine j_ic_ne (tgt := 170) h d_Mod_hears_158 (by decide) (fun c17 => ?_) (fun c17 => absurd c17 (by decide))
          refine j_aload_n h d_Mod_hears_170 rfl ?_
          refine j_iconst (v := 3) h d_Mod_hears_171 (by decide) ?_
          refine m_iald3e (a := 38) (L := 14) (j := 3) (v := 2) h ms d_Mod_hears_172 (by decide) rfl (by decide) rfl rfl (by omega) ((hrd 3 (by decide)).trans hk) ?_
          refine j_if_ne (tgt := 194) h d_Mod_hears_173 (by decide) (fun c18 => ?_) (fun c18 => absurd c18 (by decide))
          refine j_aload_n h d_Mod_hears_194 rfl ?_
          refine j_iconst (v := 3) h d_Mod_hears_195 (by decide) ?_
          refine m_iald3e (a := 38) (L := 14) (j := 3) (v := 2) h ms d_Mod_hears_196 (by decide) rfl (by decide) rfl rfl (by omega) ((hrd 3 (by decide)).trans hk) ?_
          refine j_iconst (v := 1) h d_Mod_hears_197 (by decide) ?_
          refine j_ic_ne (tgt := 222) h d_Mod_hears_198 (by decide) (fun c19 => ?_) (fun c19 => absurd c19 (by decide))
          refine j_aload_n h d_Mod_hears_222 rfl ?_
          refine j_iload_n h d_Mod_hears_223 rfl ?_
          refine j_aload_n h d_Mod_hears_224 rfl ?_
          refine j_iconst (v := 2) h d_Mod_hears_225 (by decide) ?_
          refine m_iald3e (a := 38) (L := 14) (j := 2) (v := x 2) h ms d_Mod_hears_226 (by decide) rfl (by decide) rfl rfl (by omega) (hrd 2 (by decide)) ?_
          refine j_aload_n h d_Mod_hears_227 rfl ?_
          refine j_iconst (v := 4) h d_Mod_hears_228 (by decide) ?_
          refine m_iald3e (a := 38) (L := 14) (j := 4) (v := nI a) h ms d_Mod_hears_229 (by decide) rfl (by decide) rfl rfl (by omega) ((hrd 4 (by decide)).trans hx4) ?_
          refine j_aload_n h d_Mod_hears_230 rfl ?_
          refine j_iconst (v := 5) h d_Mod_hears_231 (by decide) ?_
          refine m_iald3e (a := 38) (L := 14) (j := 5) (v := x 5) h ms d_Mod_hears_232 (by decide) rfl (by decide) rfl rfl (by omega) (hrd 5 (by decide)) ?_
          refine j_callV h (c_Mod_hearRelease _ _ _ _ _ _ _ _ ms _ hs _ _ ha hn32 _ _) d_Mod_hears_233 ml_Mod_191 mv_Mod_hearRelease (by assumption) ⟨rfl, rfl⟩ rfl rfl (Nat.le_of_ble_eq_true rfl) (hR_of hX (by decide) (by decide)) (hf_of hX (by decide) (by decide)) ?_
          rintro _ _ _ _ ⟨rfl, rfl, rfl, rfl⟩
          refine j_iconst (v := 1) h d_Mod_hears_236 (by decide) ?_
          exact j_zret hX d_Mod_hears_237 rfl (Or.inr rfl) (Nat.le_refl _) (Nat.le_refl _) ⟨rfl, rfl, rfl, D, rfl, DK.refl _, hm⟩
  · have hcl : (x 1).toNatClampNeg = c := by rw [hx1]; exact nI_clamp (by omega)
    rw [show dlR C x = b01 (x 5 = C 32 c ∧ ¬ C 33 c = 2) by unfold dlR; rw [if_pos h0, hcl], show dlA C n ld x = anA C c x by unfold dlA; rw [if_pos h0, hcl], show dlN C n ld x N = N by unfold dlN; rw [if_pos h0]] at hX
    have h30b : x 3 = 1 → ∀ q, q < 16 → ((up (up C 30 c (x 4)) 31 c (x 6)) 30 q = -1 ↔ (up (up C 30 c (x 4)) 31 c (x 6)) 30 q < 0) := by
      intro h3 q hq
      rcases hk with hk | ⟨-, a, ha, hx4⟩
      · rw [hk] at h3; exact absurd h3 (by decide)
      · rw [up_c _ _ (by decide), up_rd]
        split
        · rw [hx4]; exact ⟨fun e => absurd e (nI_m1 (by omega)), fun e => absurd e (nI_n0 (by omega))⟩
        · exact h30 q hq
    refine j_aload_n h d_Mod_hears_0 rfl ?_
    refine j_iconst (v := 1) h d_Mod_hears_1 (by decide) ?_
    refine m_iald3e (a := 38) (L := 14) (j := 1) (v := nI c) h ms d_Mod_hears_2 (by decide) rfl (by decide) rfl rfl (by omega) ((hrd 1 (by decide)).trans hx1) ?_
    refine j_istore_n h d_Mod_hears_3 (Nat.lt_of_lt_of_eq (m := 4) (by decide) hN.symm) ?_
    refine j_aload_n h d_Mod_hears_4 rfl ?_
    refine j_iconst (v := 0) h d_Mod_hears_5 (by decide) ?_
    refine m_iald3e (a := 38) (L := 14) (j := 0) (v := 1) h ms d_Mod_hears_6 (by decide) rfl (by decide) rfl rfl (by omega) ((hrd 0 (by decide)).trans h0) ?_
    refine j_iconst (v := 1) h d_Mod_hears_7 (by decide) ?_
    refine j_ic_ne (tgt := 70) h d_Mod_hears_8 (by decide) (fun c1 => absurd c1 (by decide)) (fun c1 => ?_)
    refine j_aload_n h d_Mod_hears_11 rfl ?_
    refine j_iconst (v := 5) h d_Mod_hears_12 (by decide) ?_
    refine m_iald3e (a := 38) (L := 14) (j := 5) (v := x 5) h ms d_Mod_hears_13 (by decide) rfl (by decide) rfl rfl (by omega) (hrd 5 (by decide)) ?_
    refine j_aload_n h d_Mod_hears_14 rfl ?_
    refine j_getR h d_Mod_hears_15 fl_Mod_80 rfl (by assumption) (mP ms (a := 33) (by decide)) ?_
    refine j_iload_n h d_Mod_hears_18 rfl ?_
    refine m_iald2 (a := 33) (L := 16) (j := c) h ms d_Mod_hears_19 (by decide) rfl (by decide) rfl rfl (by omega) ?_
    refine j_ic_ne (tgt := 33) h d_Mod_hears_20 (by decide) (fun c2 => ?_) (fun c2 => ?_)
    · refine j_iconst (v := 0) h d_Mod_hears_33 (by decide) ?_
      exact j_zret hX d_Mod_hears_34 rfl (by first | exact Or.inl rfl | exact Or.inr rfl | exact b01_z _ | assumption) (Nat.le_refl _) (Nat.le_refl _) ⟨rfl, by clear hX h hl h30b; first | (simp_all [b01]; done) | grind [b01], rfl, D, by clear hX h hl h30b; first | (simp_all [anA, up_rd]; done) | grind [anA, up_rd], DK.refl _, hm⟩
    · refine j_aload_n h d_Mod_hears_23 rfl ?_
      refine j_getR h d_Mod_hears_24 fl_Mod_83 rfl (by assumption) (mP ms (a := 34) (by decide)) ?_
      refine j_iload_n h d_Mod_hears_27 rfl ?_
      refine m_iald2 (a := 34) (L := 16) (j := c) h ms d_Mod_hears_28 (by decide) rfl (by decide) rfl rfl (by omega) ?_
      refine j_iconst (v := 2) h d_Mod_hears_29 (by decide) ?_
      refine j_ic_ne (tgt := 35) h d_Mod_hears_30 (by decide) (fun c3 => ?_) (fun c3 => ?_)
      · refine j_aload_n h d_Mod_hears_35 rfl ?_
        refine j_iconst (v := 3) h d_Mod_hears_36 (by decide) ?_
        refine m_iald3e (a := 38) (L := 14) (j := 3) (v := x 3) h ms d_Mod_hears_37 (by decide) rfl (by decide) rfl rfl (by omega) (hrd 3 (by decide)) ?_
        refine j_iconst (v := 1) h d_Mod_hears_38 (by decide) ?_
        refine j_ic_ne (tgt := 68) h d_Mod_hears_39 (by decide) (fun c4 => ?_) (fun c4 => ?_)
        · refine j_iconst (v := 1) h d_Mod_hears_68 (by decide) ?_
          exact j_zret hX d_Mod_hears_69 rfl (by first | exact Or.inl rfl | exact Or.inr rfl | exact b01_z _ | assumption) (Nat.le_refl _) (Nat.le_refl _) ⟨rfl, by clear hX h hl h30b; first | (simp_all [b01]; done) | grind [b01], rfl, D, by clear hX h hl h30b; first | (simp_all [anA, up_rd]; done) | grind [anA, up_rd], DK.refl _, hm⟩
        · refine j_aload_n h d_Mod_hears_42 rfl ?_
          refine j_getR h d_Mod_hears_43 fl_Mod_74 rfl (by assumption) (mP ms (a := 31) (by decide)) ?_
          refine j_iload_n h d_Mod_hears_46 rfl ?_
          refine j_aload_n h d_Mod_hears_47 rfl ?_
          refine j_iconst (v := 4) h d_Mod_hears_48 (by decide) ?_
          refine m_iald3e (a := 38) (L := 14) (j := 4) (v := x 4) h ms d_Mod_hears_49 (by decide) rfl (by decide) rfl rfl (by omega) (hrd 4 (by decide)) ?_
          refine m_iast2 (a := 31) (L := 16) (j := c) h ms d_Mod_hears_50 (by decide) rfl (by decide) rfl rfl (by omega) ?_
          refine j_aload_n h d_Mod_hears_51 rfl ?_
          refine j_getR h d_Mod_hears_52 fl_Mod_77 rfl (by assumption) (mP ms (a := 32) (by decide)) ?_
          refine j_iload_n h d_Mod_hears_55 rfl ?_
          refine j_aload_n h d_Mod_hears_56 rfl ?_
          refine j_bipush (v := 6) h d_Mod_hears_57 (by decide) ?_
          refine m_iald3e (a := 38) (L := 14) (j := 6) (v := x 6) h ms d_Mod_hears_59 (by decide) rfl (by decide) rfl rfl (by omega) (hrd 6 (by decide)) ?_
          refine m_iast2 (a := 32) (L := 16) (j := c) h ms d_Mod_hears_60 (by decide) rfl (by decide) rfl rfl (by omega) ?_
          refine j_aload_n h d_Mod_hears_61 rfl ?_
          refine j_aload_n h d_Mod_hears_62 rfl ?_
          refine j_iconst (v := 4) h d_Mod_hears_63 (by decide) ?_
          refine m_iald3e (a := 38) (L := 14) (j := 4) (v := x 4) h ms d_Mod_hears_64 (by decide) rfl (by decide) rfl rfl (by omega) (hrd 4 (by decide)) ?_
          refine j_callV h (c_Mod_count _ _ _ _ _ _ _ _ ms (h30b (by assumption)) _) d_Mod_hears_65 ml_Mod_175 mv_Mod_count (by assumption) ⟨rfl, rfl⟩ rfl rfl (Nat.le_of_ble_eq_true rfl) (hR_of hX (by decide) (by decide)) (hf_of hX (by decide) (by decide)) ?_
          rintro _ _ _ _ ⟨rfl, rfl, rfl, rfl⟩
          refine j_iconst (v := 1) h d_Mod_hears_68 (by decide) ?_
          exact j_zret hX d_Mod_hears_69 rfl (by first | exact Or.inl rfl | exact Or.inr rfl | exact b01_z _ | assumption) (Nat.le_refl _) (Nat.le_refl _) ⟨rfl, by clear hX h hl h30b; first | (simp_all [b01]; done) | grind [b01], rfl, D, by clear hX h hl h30b; first | (simp_all [anA, up_rd]; done) | grind [anA, up_rd], DK.refl _, hm⟩
      · refine j_iconst (v := 0) h d_Mod_hears_33 (by decide) ?_
        exact j_zret hX d_Mod_hears_34 rfl (by first | exact Or.inl rfl | exact Or.inr rfl | exact b01_z _ | assumption) (Nat.le_refl _) (Nat.le_refl _) ⟨rfl, by clear hX h hl h30b; first | (simp_all [b01]; done) | grind [b01], rfl, D, by clear hX h hl h30b; first | (simp_all [anA, up_rd]; done) | grind [anA, up_rd], DK.refl _, hm⟩
  · have hcl : (x 1).toNatClampNeg = s := by rw [hx1]; exact nI_clamp (by omega)
    have eR : dlR C x = hrs C s (x 0) := by unfold dlR; rw [if_neg (by rw [h0]; decide), hcl]
    refine j_aload_n h d_Mod_hears_0 rfl ?_
    refine j_iconst (v := 1) h d_Mod_hears_1 (by decide) ?_
    refine m_iald3e (a := 38) (L := 14) (j := 1) (v := nI s) h ms d_Mod_hears_2 (by decide) rfl (by decide) rfl rfl (by omega) ((hrd 1 (by decide)).trans hx1) ?_
    refine j_istore_n h d_Mod_hears_3 (Nat.lt_of_lt_of_eq (m := 4) (by decide) hN.symm) ?_
    refine j_aload_n h d_Mod_hears_4 rfl ?_
    refine j_iconst (v := 0) h d_Mod_hears_5 (by decide) ?_
    refine m_iald3e (a := 38) (L := 14) (j := 0) (v := 2) h ms d_Mod_hears_6 (by decide) rfl (by decide) rfl rfl (by omega) ((hrd 0 (by decide)).trans h0) ?_
    refine j_iconst (v := 1) h d_Mod_hears_7 (by decide) ?_
    refine j_ic_ne (tgt := 70) h d_Mod_hears_8 (by decide) (fun c1 => ?_) (fun c1 => absurd c1 (by decide))
    refine j_aload_n h d_Mod_hears_70 rfl ?_
    refine j_getR h d_Mod_hears_71 fl_Mod_7 rfl (by assumption) (mP ms (a := 10) (by decide)) ?_
    refine j_iload_n h d_Mod_hears_74 rfl ?_
    refine m_iald2 (a := 10) (L := 2) (j := s) h ms d_Mod_hears_75 (by decide) rfl (by decide) rfl rfl (by omega) ?_
    refine j_iconst (v := 2) h d_Mod_hears_76 (by decide) ?_
    refine j_ic_eq (tgt := 90) h d_Mod_hears_77 (by decide) (fun c2 => ?_) (fun c2 => ?_)
    · refine j_iconst (v := 1) h d_Mod_hears_90 (by decide) ?_
      refine j_goto (tgt := 95) h d_Mod_hears_91 (by decide) ?_
      refine j_istore_n h d_Mod_hears_95 (Nat.lt_of_lt_of_eq (m := 4) (by decide) hN.symm) ?_
      refine j_aload_n h d_Mod_hears_96 rfl ?_
      refine j_iconst (v := 0) h d_Mod_hears_97 (by decide) ?_
      refine m_iald3e (a := 38) (L := 14) (j := 0) (v := 2) h ms d_Mod_hears_98 (by decide) rfl (by decide) rfl rfl (by omega) ((hrd 0 (by decide)).trans h0) ?_
      refine j_if_ne (tgt := 109) h d_Mod_hears_99 (by decide) (fun c3 => ?_) (fun c3 => absurd c3 (by decide))
      refine j_aload_n h d_Mod_hears_109 rfl ?_
      refine j_getR h d_Mod_hears_110 fl_Mod_7 rfl (by assumption) (mP ms (a := 10) (by decide)) ?_
      refine j_iload_n h d_Mod_hears_113 rfl ?_
      refine m_iald2 (a := 10) (L := 2) (j := s) h ms d_Mod_hears_114 (by decide) rfl (by decide) rfl rfl (by omega) ?_
      refine j_if_ne (tgt := 120) h d_Mod_hears_115 (by decide) (fun c4 => ?_) (fun c4 => ?_)
      · have hr1 : hrs C s (x 0) = 1 := by unfold hrs; rw [h0]; exact b01_t (by clear hX h hl; first | (simp_all; done) | grind)
        have ha0 : ¬ C 0 s = 0 := by clear hX h hl; first | (simp_all; done) | grind
        rw [eR, hr1, show dlA C n ld x = hhA C s n (x 5) by unfold dlA; rw [if_neg (by rw [h0]; decide), hcl, if_neg (by rw [hr1]; decide), if_neg (by rw [h0]; decide), if_pos h0], show dlN C n ld x N = hhN C s n (x 5) N by unfold dlN; rw [if_neg (by rw [h0]; decide), hcl, if_neg (by rw [hr1]; decide), if_neg (by rw [h0]; decide), if_pos h0]] at hX
        refine j_aload_n h d_Mod_hears_120 rfl ?_
        refine j_iconst (v := 0) h d_Mod_hears_121 (by decide) ?_
        refine m_iald3e (a := 38) (L := 14) (j := 0) (v := 2) h ms d_Mod_hears_122 (by decide) rfl (by decide) rfl rfl (by omega) ((hrd 0 (by decide)).trans h0) ?_
        refine j_iconst (v := 2) h d_Mod_hears_123 (by decide) ?_
        refine j_ic_ne (tgt := 138) h d_Mod_hears_124 (by decide) (fun c5 => absurd c5 (by decide)) (fun c5 => ?_)
        refine j_aload_n h d_Mod_hears_127 rfl ?_
        refine j_iload_n h d_Mod_hears_128 rfl ?_
        refine j_aload_n h d_Mod_hears_129 rfl ?_
        refine j_iconst (v := 5) h d_Mod_hears_130 (by decide) ?_
        refine m_iald3e (a := 38) (L := 14) (j := 5) (v := x 5) h ms d_Mod_hears_131 (by decide) rfl (by decide) rfl rfl (by omega) (hrd 5 (by decide)) ?_
        refine j_callV h (c_Mod_hearHello _ _ _ _ _ _ _ _ ms _ hs _ _ _ hf _ hm _ ha0 z0) d_Mod_hears_132 ml_Mod_178 mv_Mod_hearHello (by assumption) ⟨rfl, rfl⟩ rfl rfl (Nat.le_of_ble_eq_true rfl) (hR_of hX (by decide) (by decide)) (hf_of hX (by decide) (by decide)) ?_
        rintro V3 _ _ P3 ⟨rfl, rfl, rfl, D3, rfl, hq3, hm3⟩
        refine j_goto (tgt := 236) h d_Mod_hears_135 (by decide) ?_
        refine j_iconst (v := 1) h d_Mod_hears_236 (by decide) ?_
        exact j_zret hX d_Mod_hears_237 rfl (Or.inr rfl) (Nat.le_refl _) (Nat.le_refl _) ⟨rfl, rfl, rfl, D3, rfl, hq3, hm3⟩
      · have hr0 : hrs C s (x 0) = 0 := by unfold hrs; rw [h0]; exact b01_f (by clear hX h hl; first | (simp_all; done) | grind)
        rw [eR, hr0, show dlA C n ld x = C by unfold dlA; rw [if_neg (by rw [h0]; decide), hcl, if_pos hr0], show dlN C n ld x N = N by unfold dlN; rw [if_neg (by rw [h0]; decide), hcl, if_pos hr0]] at hX
        refine j_iconst (v := 0) h d_Mod_hears_118 (by decide) ?_
        exact j_zret hX d_Mod_hears_119 rfl (Or.inl rfl) (Nat.le_refl _) (Nat.le_refl _) ⟨rfl, rfl, rfl, D, rfl, DK.refl _, hm⟩
    · refine j_aload_n h d_Mod_hears_80 rfl ?_
      refine j_getR h d_Mod_hears_81 fl_Mod_7 rfl (by assumption) (mP ms (a := 10) (by decide)) ?_
      refine j_iload_n h d_Mod_hears_84 rfl ?_
      refine m_iald2 (a := 10) (L := 2) (j := s) h ms d_Mod_hears_85 (by decide) rfl (by decide) rfl rfl (by omega) ?_
      refine j_iconst (v := 3) h d_Mod_hears_86 (by decide) ?_
      refine j_ic_ne (tgt := 94) h d_Mod_hears_87 (by decide) (fun c6 => ?_) (fun c6 => ?_)
      · refine j_iconst (v := 0) h d_Mod_hears_94 (by decide) ?_
        refine j_istore_n h d_Mod_hears_95 (Nat.lt_of_lt_of_eq (m := 4) (by decide) hN.symm) ?_
        refine j_aload_n h d_Mod_hears_96 rfl ?_
        refine j_iconst (v := 0) h d_Mod_hears_97 (by decide) ?_
        refine m_iald3e (a := 38) (L := 14) (j := 0) (v := 2) h ms d_Mod_hears_98 (by decide) rfl (by decide) rfl rfl (by omega) ((hrd 0 (by decide)).trans h0) ?_
        refine j_if_ne (tgt := 109) h d_Mod_hears_99 (by decide) (fun c7 => ?_) (fun c7 => absurd c7 (by decide))
        refine j_aload_n h d_Mod_hears_109 rfl ?_
        refine j_getR h d_Mod_hears_110 fl_Mod_7 rfl (by assumption) (mP ms (a := 10) (by decide)) ?_
        refine j_iload_n h d_Mod_hears_113 rfl ?_
        refine m_iald2 (a := 10) (L := 2) (j := s) h ms d_Mod_hears_114 (by decide) rfl (by decide) rfl rfl (by omega) ?_
        refine j_if_ne (tgt := 120) h d_Mod_hears_115 (by decide) (fun c8 => ?_) (fun c8 => ?_)
        · have hr1 : hrs C s (x 0) = 1 := by unfold hrs; rw [h0]; exact b01_t (by clear hX h hl; first | (simp_all; done) | grind)
          have ha0 : ¬ C 0 s = 0 := by clear hX h hl; first | (simp_all; done) | grind
          rw [eR, hr1, show dlA C n ld x = hhA C s n (x 5) by unfold dlA; rw [if_neg (by rw [h0]; decide), hcl, if_neg (by rw [hr1]; decide), if_neg (by rw [h0]; decide), if_pos h0], show dlN C n ld x N = hhN C s n (x 5) N by unfold dlN; rw [if_neg (by rw [h0]; decide), hcl, if_neg (by rw [hr1]; decide), if_neg (by rw [h0]; decide), if_pos h0]] at hX
          refine j_aload_n h d_Mod_hears_120 rfl ?_
          refine j_iconst (v := 0) h d_Mod_hears_121 (by decide) ?_
          refine m_iald3e (a := 38) (L := 14) (j := 0) (v := 2) h ms d_Mod_hears_122 (by decide) rfl (by decide) rfl rfl (by omega) ((hrd 0 (by decide)).trans h0) ?_
          refine j_iconst (v := 2) h d_Mod_hears_123 (by decide) ?_
          refine j_ic_ne (tgt := 138) h d_Mod_hears_124 (by decide) (fun c9 => absurd c9 (by decide)) (fun c9 => ?_)
          refine j_aload_n h d_Mod_hears_127 rfl ?_
          refine j_iload_n h d_Mod_hears_128 rfl ?_
          refine j_aload_n h d_Mod_hears_129 rfl ?_
          refine j_iconst (v := 5) h d_Mod_hears_130 (by decide) ?_
          refine m_iald3e (a := 38) (L := 14) (j := 5) (v := x 5) h ms d_Mod_hears_131 (by decide) rfl (by decide) rfl rfl (by omega) (hrd 5 (by decide)) ?_
          refine j_callV h (c_Mod_hearHello _ _ _ _ _ _ _ _ ms _ hs _ _ _ hf _ hm _ ha0 z0) d_Mod_hears_132 ml_Mod_178 mv_Mod_hearHello (by assumption) ⟨rfl, rfl⟩ rfl rfl (Nat.le_of_ble_eq_true rfl) (hR_of hX (by decide) (by decide)) (hf_of hX (by decide) (by decide)) ?_
          rintro V3 _ _ P3 ⟨rfl, rfl, rfl, D3, rfl, hq3, hm3⟩
          refine j_goto (tgt := 236) h d_Mod_hears_135 (by decide) ?_
          refine j_iconst (v := 1) h d_Mod_hears_236 (by decide) ?_
          exact j_zret hX d_Mod_hears_237 rfl (Or.inr rfl) (Nat.le_refl _) (Nat.le_refl _) ⟨rfl, rfl, rfl, D3, rfl, hq3, hm3⟩
        · have hr0 : hrs C s (x 0) = 0 := by unfold hrs; rw [h0]; exact b01_f (by clear hX h hl; first | (simp_all; done) | grind)
          rw [eR, hr0, show dlA C n ld x = C by unfold dlA; rw [if_neg (by rw [h0]; decide), hcl, if_pos hr0], show dlN C n ld x N = N by unfold dlN; rw [if_neg (by rw [h0]; decide), hcl, if_pos hr0]] at hX
          refine j_iconst (v := 0) h d_Mod_hears_118 (by decide) ?_
          exact j_zret hX d_Mod_hears_119 rfl (Or.inl rfl) (Nat.le_refl _) (Nat.le_refl _) ⟨rfl, rfl, rfl, D, rfl, DK.refl _, hm⟩
      · refine j_iconst (v := 1) h d_Mod_hears_90 (by decide) ?_
        refine j_goto (tgt := 95) h d_Mod_hears_91 (by decide) ?_
        refine j_istore_n h d_Mod_hears_95 (Nat.lt_of_lt_of_eq (m := 4) (by decide) hN.symm) ?_
        refine j_aload_n h d_Mod_hears_96 rfl ?_
        refine j_iconst (v := 0) h d_Mod_hears_97 (by decide) ?_
        refine m_iald3e (a := 38) (L := 14) (j := 0) (v := 2) h ms d_Mod_hears_98 (by decide) rfl (by decide) rfl rfl (by omega) ((hrd 0 (by decide)).trans h0) ?_
        refine j_if_ne (tgt := 109) h d_Mod_hears_99 (by decide) (fun c10 => ?_) (fun c10 => absurd c10 (by decide))
        refine j_aload_n h d_Mod_hears_109 rfl ?_
        refine j_getR h d_Mod_hears_110 fl_Mod_7 rfl (by assumption) (mP ms (a := 10) (by decide)) ?_
        refine j_iload_n h d_Mod_hears_113 rfl ?_
        refine m_iald2 (a := 10) (L := 2) (j := s) h ms d_Mod_hears_114 (by decide) rfl (by decide) rfl rfl (by omega) ?_
        refine j_if_ne (tgt := 120) h d_Mod_hears_115 (by decide) (fun c11 => ?_) (fun c11 => ?_)
        · have hr1 : hrs C s (x 0) = 1 := by unfold hrs; rw [h0]; exact b01_t (by clear hX h hl; first | (simp_all; done) | grind)
          have ha0 : ¬ C 0 s = 0 := by clear hX h hl; first | (simp_all; done) | grind
          rw [eR, hr1, show dlA C n ld x = hhA C s n (x 5) by unfold dlA; rw [if_neg (by rw [h0]; decide), hcl, if_neg (by rw [hr1]; decide), if_neg (by rw [h0]; decide), if_pos h0], show dlN C n ld x N = hhN C s n (x 5) N by unfold dlN; rw [if_neg (by rw [h0]; decide), hcl, if_neg (by rw [hr1]; decide), if_neg (by rw [h0]; decide), if_pos h0]] at hX
          refine j_aload_n h d_Mod_hears_120 rfl ?_
          refine j_iconst (v := 0) h d_Mod_hears_121 (by decide) ?_
          refine m_iald3e (a := 38) (L := 14) (j := 0) (v := 2) h ms d_Mod_hears_122 (by decide) rfl (by decide) rfl rfl (by omega) ((hrd 0 (by decide)).trans h0) ?_
          refine j_iconst (v := 2) h d_Mod_hears_123 (by decide) ?_
          refine j_ic_ne (tgt := 138) h d_Mod_hears_124 (by decide) (fun c12 => absurd c12 (by decide)) (fun c12 => ?_)
          refine j_aload_n h d_Mod_hears_127 rfl ?_
          refine j_iload_n h d_Mod_hears_128 rfl ?_
          refine j_aload_n h d_Mod_hears_129 rfl ?_
          refine j_iconst (v := 5) h d_Mod_hears_130 (by decide) ?_
          refine m_iald3e (a := 38) (L := 14) (j := 5) (v := x 5) h ms d_Mod_hears_131 (by decide) rfl (by decide) rfl rfl (by omega) (hrd 5 (by decide)) ?_
          refine j_callV h (c_Mod_hearHello _ _ _ _ _ _ _ _ ms _ hs _ _ _ hf _ hm _ ha0 z0) d_Mod_hears_132 ml_Mod_178 mv_Mod_hearHello (by assumption) ⟨rfl, rfl⟩ rfl rfl (Nat.le_of_ble_eq_true rfl) (hR_of hX (by decide) (by decide)) (hf_of hX (by decide) (by decide)) ?_
          rintro V3 _ _ P3 ⟨rfl, rfl, rfl, D3, rfl, hq3, hm3⟩
          refine j_goto (tgt := 236) h d_Mod_hears_135 (by decide) ?_
          refine j_iconst (v := 1) h d_Mod_hears_236 (by decide) ?_
          exact j_zret hX d_Mod_hears_237 rfl (Or.inr rfl) (Nat.le_refl _) (Nat.le_refl _) ⟨rfl, rfl, rfl, D3, rfl, hq3, hm3⟩
        · have hr0 : hrs C s (x 0) = 0 := by unfold hrs; rw [h0]; exact b01_f (by clear hX h hl; first | (simp_all; done) | grind)
          rw [eR, hr0, show dlA C n ld x = C by unfold dlA; rw [if_neg (by rw [h0]; decide), hcl, if_pos hr0], show dlN C n ld x N = N by unfold dlN; rw [if_neg (by rw [h0]; decide), hcl, if_pos hr0]] at hX
          refine j_iconst (v := 0) h d_Mod_hears_118 (by decide) ?_
          exact j_zret hX d_Mod_hears_119 rfl (Or.inl rfl) (Nat.le_refl _) (Nat.le_refl _) ⟨rfl, rfl, rfl, D, rfl, DK.refl _, hm⟩
  · have hca : (x 4).toNatClampNeg = a := by rw [hx4]; exact nI_clamp (by omega)
    rcases h0 with h0 | h0
    · have hcl : (x 1).toNatClampNeg = s := by rw [hx1]; exact nI_clamp (by omega)
      have eR : dlR C x = hrs C s (x 0) := by unfold dlR; rw [if_neg (by rw [h0]; decide), hcl]
      refine j_aload_n h d_Mod_hears_0 rfl ?_
      refine j_iconst (v := 1) h d_Mod_hears_1 (by decide) ?_
      refine m_iald3e (a := 38) (L := 14) (j := 1) (v := nI s) h ms d_Mod_hears_2 (by decide) rfl (by decide) rfl rfl (by omega) ((hrd 1 (by decide)).trans hx1) ?_
      refine j_istore_n h d_Mod_hears_3 (Nat.lt_of_lt_of_eq (m := 4) (by decide) hN.symm) ?_
      refine j_aload_n h d_Mod_hears_4 rfl ?_
      refine j_iconst (v := 0) h d_Mod_hears_5 (by decide) ?_
      refine m_iald3e (a := 38) (L := 14) (j := 0) (v := 3) h ms d_Mod_hears_6 (by decide) rfl (by decide) rfl rfl (by omega) ((hrd 0 (by decide)).trans h0) ?_
      refine j_iconst (v := 1) h d_Mod_hears_7 (by decide) ?_
      refine j_ic_ne (tgt := 70) h d_Mod_hears_8 (by decide) (fun c1 => ?_) (fun c1 => absurd c1 (by decide))
      refine j_aload_n h d_Mod_hears_70 rfl ?_
      refine j_getR h d_Mod_hears_71 fl_Mod_7 rfl (by assumption) (mP ms (a := 10) (by decide)) ?_
      refine j_iload_n h d_Mod_hears_74 rfl ?_
      refine m_iald2 (a := 10) (L := 2) (j := s) h ms d_Mod_hears_75 (by decide) rfl (by decide) rfl rfl (by omega) ?_
      refine j_iconst (v := 2) h d_Mod_hears_76 (by decide) ?_
      refine j_ic_eq (tgt := 90) h d_Mod_hears_77 (by decide) (fun c2 => ?_) (fun c2 => ?_)
      · refine j_iconst (v := 1) h d_Mod_hears_90 (by decide) ?_
        refine j_goto (tgt := 95) h d_Mod_hears_91 (by decide) ?_
        refine j_istore_n h d_Mod_hears_95 (Nat.lt_of_lt_of_eq (m := 4) (by decide) hN.symm) ?_
        refine j_aload_n h d_Mod_hears_96 rfl ?_
        refine j_iconst (v := 0) h d_Mod_hears_97 (by decide) ?_
        refine m_iald3e (a := 38) (L := 14) (j := 0) (v := 3) h ms d_Mod_hears_98 (by decide) rfl (by decide) rfl rfl (by omega) ((hrd 0 (by decide)).trans h0) ?_
        refine j_if_ne (tgt := 109) h d_Mod_hears_99 (by decide) (fun c3 => ?_) (fun c3 => absurd c3 (by decide))
        refine j_aload_n h d_Mod_hears_109 rfl ?_
        refine j_getR h d_Mod_hears_110 fl_Mod_7 rfl (by assumption) (mP ms (a := 10) (by decide)) ?_
        refine j_iload_n h d_Mod_hears_113 rfl ?_
        refine m_iald2 (a := 10) (L := 2) (j := s) h ms d_Mod_hears_114 (by decide) rfl (by decide) rfl rfl (by omega) ?_
        refine j_if_ne (tgt := 120) h d_Mod_hears_115 (by decide) (fun c4 => ?_) (fun c4 => ?_)
        · have hr1 : hrs C s (x 0) = 1 := by unfold hrs; rw [h0]; exact b01_t (by clear hX h hl; first | (simp_all; done) | grind)
          have ha0 : ¬ C 0 s = 0 := by clear hX h hl; first | (simp_all; done) | grind
          rw [eR, hr1, show dlA C n ld x = hupA C (32 * s + a) s n (clk C s) x by unfold dlA; rw [if_neg (by rw [h0]; decide), hcl, if_neg (by rw [hr1]; decide), if_neg (by rw [h0]; decide), if_neg (by rw [h0]; decide), if_pos h0, hca], show dlN C n ld x N = hupN C s a n (clk C s) x N by unfold dlN; rw [if_neg (by rw [h0]; decide), hcl, if_neg (by rw [hr1]; decide), if_neg (by rw [h0]; decide), if_neg (by rw [h0]; decide), if_pos h0, hca]] at hX
          refine j_aload_n h d_Mod_hears_120 rfl ?_
          refine j_iconst (v := 0) h d_Mod_hears_121 (by decide) ?_
          refine m_iald3e (a := 38) (L := 14) (j := 0) (v := 3) h ms d_Mod_hears_122 (by decide) rfl (by decide) rfl rfl (by omega) ((hrd 0 (by decide)).trans h0) ?_
          refine j_iconst (v := 2) h d_Mod_hears_123 (by decide) ?_
          refine j_ic_ne (tgt := 138) h d_Mod_hears_124 (by decide) (fun c5 => ?_) (fun c5 => absurd c5 (by decide))
          refine j_aload_n h d_Mod_hears_138 rfl ?_
          refine j_iconst (v := 0) h d_Mod_hears_139 (by decide) ?_
          refine m_iald3e (a := 38) (L := 14) (j := 0) (v := 3) h ms d_Mod_hears_140 (by decide) rfl (by decide) rfl rfl (by omega) ((hrd 0 (by decide)).trans h0) ?_
          refine j_iconst (v := 3) h d_Mod_hears_141 (by decide) ?_
          refine j_ic_ne (tgt := 154) h d_Mod_hears_142 (by decide) (fun c6 => absurd c6 (by decide)) (fun c6 => ?_)
          refine j_aload_n h d_Mod_hears_145 rfl ?_
          refine j_iload_n h d_Mod_hears_146 rfl ?_
          refine j_aload_n h d_Mod_hears_147 rfl ?_
          refine j_callV h (c_Mod_hearUpdate _ _ _ _ _ _ _ _ ms _ hs _ _ _ hf _ ha _ hm _ hrd hx4 (hk3 h0) hx11 ha0 z0) d_Mod_hears_148 ml_Mod_181 mv_Mod_hearUpdate (by assumption) ⟨rfl, rfl⟩ rfl rfl (Nat.le_of_ble_eq_true rfl) (hR_of hX (by decide) (by decide)) (hf_of hX (by decide) (by decide)) ?_
          rintro V3 _ _ P3 ⟨rfl, rfl, rfl, D3, rfl, hq3, hm3⟩
          refine j_goto (tgt := 236) h d_Mod_hears_151 (by decide) ?_
          refine j_iconst (v := 1) h d_Mod_hears_236 (by decide) ?_
          exact j_zret hX d_Mod_hears_237 rfl (Or.inr rfl) (Nat.le_refl _) (Nat.le_refl _) ⟨rfl, rfl, rfl, D3, rfl, hq3, hm3⟩
        · have hr0 : hrs C s (x 0) = 0 := by unfold hrs; rw [h0]; exact b01_f (by clear hX h hl; first | (simp_all; done) | grind)
          rw [eR, hr0, show dlA C n ld x = C by unfold dlA; rw [if_neg (by rw [h0]; decide), hcl, if_pos hr0], show dlN C n ld x N = N by unfold dlN; rw [if_neg (by rw [h0]; decide), hcl, if_pos hr0]] at hX
          refine j_iconst (v := 0) h d_Mod_hears_118 (by decide) ?_
          exact j_zret hX d_Mod_hears_119 rfl (Or.inl rfl) (Nat.le_refl _) (Nat.le_refl _) ⟨rfl, rfl, rfl, D, rfl, DK.refl _, hm⟩
      · refine j_aload_n h d_Mod_hears_80 rfl ?_
        refine j_getR h d_Mod_hears_81 fl_Mod_7 rfl (by assumption) (mP ms (a := 10) (by decide)) ?_
        refine j_iload_n h d_Mod_hears_84 rfl ?_
        refine m_iald2 (a := 10) (L := 2) (j := s) h ms d_Mod_hears_85 (by decide) rfl (by decide) rfl rfl (by omega) ?_
        refine j_iconst (v := 3) h d_Mod_hears_86 (by decide) ?_
        refine j_ic_ne (tgt := 94) h d_Mod_hears_87 (by decide) (fun c7 => ?_) (fun c7 => ?_)
        · refine j_iconst (v := 0) h d_Mod_hears_94 (by decide) ?_
          refine j_istore_n h d_Mod_hears_95 (Nat.lt_of_lt_of_eq (m := 4) (by decide) hN.symm) ?_
          refine j_aload_n h d_Mod_hears_96 rfl ?_
          refine j_iconst (v := 0) h d_Mod_hears_97 (by decide) ?_
          refine m_iald3e (a := 38) (L := 14) (j := 0) (v := 3) h ms d_Mod_hears_98 (by decide) rfl (by decide) rfl rfl (by omega) ((hrd 0 (by decide)).trans h0) ?_
          refine j_if_ne (tgt := 109) h d_Mod_hears_99 (by decide) (fun c8 => ?_) (fun c8 => absurd c8 (by decide))
          refine j_aload_n h d_Mod_hears_109 rfl ?_
          refine j_getR h d_Mod_hears_110 fl_Mod_7 rfl (by assumption) (mP ms (a := 10) (by decide)) ?_
          refine j_iload_n h d_Mod_hears_113 rfl ?_
          refine m_iald2 (a := 10) (L := 2) (j := s) h ms d_Mod_hears_114 (by decide) rfl (by decide) rfl rfl (by omega) ?_
          refine j_if_ne (tgt := 120) h d_Mod_hears_115 (by decide) (fun c9 => ?_) (fun c9 => ?_)
          · have hr1 : hrs C s (x 0) = 1 := by unfold hrs; rw [h0]; exact b01_t (by clear hX h hl; first | (simp_all; done) | grind)
            have ha0 : ¬ C 0 s = 0 := by clear hX h hl; first | (simp_all; done) | grind
            rw [eR, hr1, show dlA C n ld x = hupA C (32 * s + a) s n (clk C s) x by unfold dlA; rw [if_neg (by rw [h0]; decide), hcl, if_neg (by rw [hr1]; decide), if_neg (by rw [h0]; decide), if_neg (by rw [h0]; decide), if_pos h0, hca], show dlN C n ld x N = hupN C s a n (clk C s) x N by unfold dlN; rw [if_neg (by rw [h0]; decide), hcl, if_neg (by rw [hr1]; decide), if_neg (by rw [h0]; decide), if_neg (by rw [h0]; decide), if_pos h0, hca]] at hX
            refine j_aload_n h d_Mod_hears_120 rfl ?_
            refine j_iconst (v := 0) h d_Mod_hears_121 (by decide) ?_
            refine m_iald3e (a := 38) (L := 14) (j := 0) (v := 3) h ms d_Mod_hears_122 (by decide) rfl (by decide) rfl rfl (by omega) ((hrd 0 (by decide)).trans h0) ?_
            refine j_iconst (v := 2) h d_Mod_hears_123 (by decide) ?_
            refine j_ic_ne (tgt := 138) h d_Mod_hears_124 (by decide) (fun c10 => ?_) (fun c10 => absurd c10 (by decide))
            refine j_aload_n h d_Mod_hears_138 rfl ?_
            refine j_iconst (v := 0) h d_Mod_hears_139 (by decide) ?_
            refine m_iald3e (a := 38) (L := 14) (j := 0) (v := 3) h ms d_Mod_hears_140 (by decide) rfl (by decide) rfl rfl (by omega) ((hrd 0 (by decide)).trans h0) ?_
            refine j_iconst (v := 3) h d_Mod_hears_141 (by decide) ?_
            refine j_ic_ne (tgt := 154) h d_Mod_hears_142 (by decide) (fun c11 => absurd c11 (by decide)) (fun c11 => ?_)
            refine j_aload_n h d_Mod_hears_145 rfl ?_
            refine j_iload_n h d_Mod_hears_146 rfl ?_
            refine j_aload_n h d_Mod_hears_147 rfl ?_
            refine j_callV h (c_Mod_hearUpdate _ _ _ _ _ _ _ _ ms _ hs _ _ _ hf _ ha _ hm _ hrd hx4 (hk3 h0) hx11 ha0 z0) d_Mod_hears_148 ml_Mod_181 mv_Mod_hearUpdate (by assumption) ⟨rfl, rfl⟩ rfl rfl (Nat.le_of_ble_eq_true rfl) (hR_of hX (by decide) (by decide)) (hf_of hX (by decide) (by decide)) ?_
            rintro V3 _ _ P3 ⟨rfl, rfl, rfl, D3, rfl, hq3, hm3⟩
            refine j_goto (tgt := 236) h d_Mod_hears_151 (by decide) ?_
            refine j_iconst (v := 1) h d_Mod_hears_236 (by decide) ?_
            exact j_zret hX d_Mod_hears_237 rfl (Or.inr rfl) (Nat.le_refl _) (Nat.le_refl _) ⟨rfl, rfl, rfl, D3, rfl, hq3, hm3⟩
          · have hr0 : hrs C s (x 0) = 0 := by unfold hrs; rw [h0]; exact b01_f (by clear hX h hl; first | (simp_all; done) | grind)
            rw [eR, hr0, show dlA C n ld x = C by unfold dlA; rw [if_neg (by rw [h0]; decide), hcl, if_pos hr0], show dlN C n ld x N = N by unfold dlN; rw [if_neg (by rw [h0]; decide), hcl, if_pos hr0]] at hX
            refine j_iconst (v := 0) h d_Mod_hears_118 (by decide) ?_
            exact j_zret hX d_Mod_hears_119 rfl (Or.inl rfl) (Nat.le_refl _) (Nat.le_refl _) ⟨rfl, rfl, rfl, D, rfl, DK.refl _, hm⟩
        · refine j_iconst (v := 1) h d_Mod_hears_90 (by decide) ?_
          refine j_goto (tgt := 95) h d_Mod_hears_91 (by decide) ?_
          refine j_istore_n h d_Mod_hears_95 (Nat.lt_of_lt_of_eq (m := 4) (by decide) hN.symm) ?_
          refine j_aload_n h d_Mod_hears_96 rfl ?_
          refine j_iconst (v := 0) h d_Mod_hears_97 (by decide) ?_
          refine m_iald3e (a := 38) (L := 14) (j := 0) (v := 3) h ms d_Mod_hears_98 (by decide) rfl (by decide) rfl rfl (by omega) ((hrd 0 (by decide)).trans h0) ?_
          refine j_if_ne (tgt := 109) h d_Mod_hears_99 (by decide) (fun c12 => ?_) (fun c12 => absurd c12 (by decide))
          refine j_aload_n h d_Mod_hears_109 rfl ?_
          refine j_getR h d_Mod_hears_110 fl_Mod_7 rfl (by assumption) (mP ms (a := 10) (by decide)) ?_
          refine j_iload_n h d_Mod_hears_113 rfl ?_
          refine m_iald2 (a := 10) (L := 2) (j := s) h ms d_Mod_hears_114 (by decide) rfl (by decide) rfl rfl (by omega) ?_
          refine j_if_ne (tgt := 120) h d_Mod_hears_115 (by decide) (fun c13 => ?_) (fun c13 => ?_)
          · have hr1 : hrs C s (x 0) = 1 := by unfold hrs; rw [h0]; exact b01_t (by clear hX h hl; first | (simp_all; done) | grind)
            have ha0 : ¬ C 0 s = 0 := by clear hX h hl; first | (simp_all; done) | grind
            rw [eR, hr1, show dlA C n ld x = hupA C (32 * s + a) s n (clk C s) x by unfold dlA; rw [if_neg (by rw [h0]; decide), hcl, if_neg (by rw [hr1]; decide), if_neg (by rw [h0]; decide), if_neg (by rw [h0]; decide), if_pos h0, hca], show dlN C n ld x N = hupN C s a n (clk C s) x N by unfold dlN; rw [if_neg (by rw [h0]; decide), hcl, if_neg (by rw [hr1]; decide), if_neg (by rw [h0]; decide), if_neg (by rw [h0]; decide), if_pos h0, hca]] at hX
            refine j_aload_n h d_Mod_hears_120 rfl ?_
            refine j_iconst (v := 0) h d_Mod_hears_121 (by decide) ?_
            refine m_iald3e (a := 38) (L := 14) (j := 0) (v := 3) h ms d_Mod_hears_122 (by decide) rfl (by decide) rfl rfl (by omega) ((hrd 0 (by decide)).trans h0) ?_
            refine j_iconst (v := 2) h d_Mod_hears_123 (by decide) ?_
            refine j_ic_ne (tgt := 138) h d_Mod_hears_124 (by decide) (fun c14 => ?_) (fun c14 => absurd c14 (by decide))
            refine j_aload_n h d_Mod_hears_138 rfl ?_
            refine j_iconst (v := 0) h d_Mod_hears_139 (by decide) ?_
            refine m_iald3e (a := 38) (L := 14) (j := 0) (v := 3) h ms d_Mod_hears_140 (by decide) rfl (by decide) rfl rfl (by omega) ((hrd 0 (by decide)).trans h0) ?_
            refine j_iconst (v := 3) h d_Mod_hears_141 (by decide) ?_
            refine j_ic_ne (tgt := 154) h d_Mod_hears_142 (by decide) (fun c15 => absurd c15 (by decide)) (fun c15 => ?_)
            refine j_aload_n h d_Mod_hears_145 rfl ?_
            refine j_iload_n h d_Mod_hears_146 rfl ?_
            refine j_aload_n h d_Mod_hears_147 rfl ?_
            refine j_callV h (c_Mod_hearUpdate _ _ _ _ _ _ _ _ ms _ hs _ _ _ hf _ ha _ hm _ hrd hx4 (hk3 h0) hx11 ha0 z0) d_Mod_hears_148 ml_Mod_181 mv_Mod_hearUpdate (by assumption) ⟨rfl, rfl⟩ rfl rfl (Nat.le_of_ble_eq_true rfl) (hR_of hX (by decide) (by decide)) (hf_of hX (by decide) (by decide)) ?_
            rintro V3 _ _ P3 ⟨rfl, rfl, rfl, D3, rfl, hq3, hm3⟩
            refine j_goto (tgt := 236) h d_Mod_hears_151 (by decide) ?_
            refine j_iconst (v := 1) h d_Mod_hears_236 (by decide) ?_
            exact j_zret hX d_Mod_hears_237 rfl (Or.inr rfl) (Nat.le_refl _) (Nat.le_refl _) ⟨rfl, rfl, rfl, D3, rfl, hq3, hm3⟩
          · have hr0 : hrs C s (x 0) = 0 := by unfold hrs; rw [h0]; exact b01_f (by clear hX h hl; first | (simp_all; done) | grind)
            rw [eR, hr0, show dlA C n ld x = C by unfold dlA; rw [if_neg (by rw [h0]; decide), hcl, if_pos hr0], show dlN C n ld x N = N by unfold dlN; rw [if_neg (by rw [h0]; decide), hcl, if_pos hr0]] at hX
            refine j_iconst (v := 0) h d_Mod_hears_118 (by decide) ?_
            exact j_zret hX d_Mod_hears_119 rfl (Or.inl rfl) (Nat.le_refl _) (Nat.le_refl _) ⟨rfl, rfl, rfl, D, rfl, DK.refl _, hm⟩
    · have hcl : (x 1).toNatClampNeg = s := by rw [hx1]; exact nI_clamp (by omega)
      have eR : dlR C x = hrs C s (x 0) := by unfold dlR; rw [if_neg (by rw [h0]; decide), hcl]
      refine j_aload_n h d_Mod_hears_0 rfl ?_
      refine j_iconst (v := 1) h d_Mod_hears_1 (by decide) ?_
      refine m_iald3e (a := 38) (L := 14) (j := 1) (v := nI s) h ms d_Mod_hears_2 (by decide) rfl (by decide) rfl rfl (by omega) ((hrd 1 (by decide)).trans hx1) ?_
      refine j_istore_n h d_Mod_hears_3 (Nat.lt_of_lt_of_eq (m := 4) (by decide) hN.symm) ?_
      refine j_aload_n h d_Mod_hears_4 rfl ?_
      refine j_iconst (v := 0) h d_Mod_hears_5 (by decide) ?_
      refine m_iald3e (a := 38) (L := 14) (j := 0) (v := 4) h ms d_Mod_hears_6 (by decide) rfl (by decide) rfl rfl (by omega) ((hrd 0 (by decide)).trans h0) ?_
      refine j_iconst (v := 1) h d_Mod_hears_7 (by decide) ?_
      refine j_ic_ne (tgt := 70) h d_Mod_hears_8 (by decide) (fun c1 => ?_) (fun c1 => absurd c1 (by decide))
      refine j_aload_n h d_Mod_hears_70 rfl ?_
      refine j_getR h d_Mod_hears_71 fl_Mod_7 rfl (by assumption) (mP ms (a := 10) (by decide)) ?_
      refine j_iload_n h d_Mod_hears_74 rfl ?_
      refine m_iald2 (a := 10) (L := 2) (j := s) h ms d_Mod_hears_75 (by decide) rfl (by decide) rfl rfl (by omega) ?_
      refine j_iconst (v := 2) h d_Mod_hears_76 (by decide) ?_
      refine j_ic_eq (tgt := 90) h d_Mod_hears_77 (by decide) (fun c2 => ?_) (fun c2 => ?_)
      · refine j_iconst (v := 1) h d_Mod_hears_90 (by decide) ?_
        refine j_goto (tgt := 95) h d_Mod_hears_91 (by decide) ?_
        refine j_istore_n h d_Mod_hears_95 (Nat.lt_of_lt_of_eq (m := 4) (by decide) hN.symm) ?_
        refine j_aload_n h d_Mod_hears_96 rfl ?_
        refine j_iconst (v := 0) h d_Mod_hears_97 (by decide) ?_
        refine m_iald3e (a := 38) (L := 14) (j := 0) (v := 4) h ms d_Mod_hears_98 (by decide) rfl (by decide) rfl rfl (by omega) ((hrd 0 (by decide)).trans h0) ?_
        refine j_if_ne (tgt := 109) h d_Mod_hears_99 (by decide) (fun c3 => ?_) (fun c3 => absurd c3 (by decide))
        refine j_aload_n h d_Mod_hears_109 rfl ?_
        refine j_getR h d_Mod_hears_110 fl_Mod_7 rfl (by assumption) (mP ms (a := 10) (by decide)) ?_
        refine j_iload_n h d_Mod_hears_113 rfl ?_
        refine m_iald2 (a := 10) (L := 2) (j := s) h ms d_Mod_hears_114 (by decide) rfl (by decide) rfl rfl (by omega) ?_
        refine j_if_ne (tgt := 120) h d_Mod_hears_115 (by decide) (fun c4 => ?_) (fun c4 => ?_)
        · have hr1 : hrs C s (x 0) = 1 := by unfold hrs; rw [h0]; exact b01_t (by clear hX h hl; first | (simp_all; done) | grind)
          have ha0 : ¬ C 0 s = 0 := by clear hX h hl; first | (simp_all; done) | grind
          rw [eR, hr1, show dlA C n ld x = hrAck C (32 * s + a) s (x 5) (x 6) (x 7) (x 8) by unfold dlA; rw [if_neg (by rw [h0]; decide), hcl, if_neg (by rw [hr1]; decide), if_neg (by rw [h0]; decide), if_neg (by rw [h0]; decide), if_neg (by rw [h0]; decide), hca], show dlN C n ld x N = N by unfold dlN; rw [if_neg (by rw [h0]; decide), hcl, if_neg (by rw [hr1]; decide), if_neg (by rw [h0]; decide), if_neg (by rw [h0]; decide), if_neg (by rw [h0]; decide)]] at hX
          refine j_aload_n h d_Mod_hears_120 rfl ?_
          refine j_iconst (v := 0) h d_Mod_hears_121 (by decide) ?_
          refine m_iald3e (a := 38) (L := 14) (j := 0) (v := 4) h ms d_Mod_hears_122 (by decide) rfl (by decide) rfl rfl (by omega) ((hrd 0 (by decide)).trans h0) ?_
          refine j_iconst (v := 2) h d_Mod_hears_123 (by decide) ?_
          refine j_ic_ne (tgt := 138) h d_Mod_hears_124 (by decide) (fun c5 => ?_) (fun c5 => absurd c5 (by decide))
          refine j_aload_n h d_Mod_hears_138 rfl ?_
          refine j_iconst (v := 0) h d_Mod_hears_139 (by decide) ?_
          refine m_iald3e (a := 38) (L := 14) (j := 0) (v := 4) h ms d_Mod_hears_140 (by decide) rfl (by decide) rfl rfl (by omega) ((hrd 0 (by decide)).trans h0) ?_
          refine j_iconst (v := 3) h d_Mod_hears_141 (by decide) ?_
          refine j_ic_ne (tgt := 154) h d_Mod_hears_142 (by decide) (fun c6 => ?_) (fun c6 => absurd c6 (by decide))
          refine j_aload_n h d_Mod_hears_154 rfl ?_
          refine j_iconst (v := 0) h d_Mod_hears_155 (by decide) ?_
          refine m_iald3e (a := 38) (L := 14) (j := 0) (v := 4) h ms d_Mod_hears_156 (by decide) rfl (by decide) rfl rfl (by omega) ((hrd 0 (by decide)).trans h0) ?_
          refine j_iconst (v := 4) h d_Mod_hears_157 (by decide) ?_
          refine j_ic_ne (tgt := 170) h d_Mod_hears_158 (by decide) (fun c7 => absurd c7 (by decide)) (fun c7 => ?_)
          refine j_aload_n h d_Mod_hears_161 rfl ?_
          refine j_iload_n h d_Mod_hears_162 rfl ?_
          refine j_aload_n h d_Mod_hears_163 rfl ?_
          refine j_callV h (c_Mod_hearAck _ _ _ _ _ _ _ _ ms _ hs _ _ ha hn32 _ hrd hx4) d_Mod_hears_164 ml_Mod_185 mv_Mod_hearAck (by assumption) ⟨rfl, rfl⟩ rfl rfl (Nat.le_of_ble_eq_true rfl) (hR_of hX (by decide) (by decide)) (hf_of hX (by decide) (by decide)) ?_
          rintro _ _ _ _ ⟨rfl, rfl, rfl, rfl⟩
          refine j_goto (tgt := 236) h d_Mod_hears_167 (by decide) ?_
          refine j_iconst (v := 1) h d_Mod_hears_236 (by decide) ?_
          exact j_zret hX d_Mod_hears_237 rfl (Or.inr rfl) (Nat.le_refl _) (Nat.le_refl _) ⟨rfl, rfl, rfl, D, rfl, DK.refl _, hm⟩
        · have hr0 : hrs C s (x 0) = 0 := by unfold hrs; rw [h0]; exact b01_f (by clear hX h hl; first | (simp_all; done) | grind)
          rw [eR, hr0, show dlA C n ld x = C by unfold dlA; rw [if_neg (by rw [h0]; decide), hcl, if_pos hr0], show dlN C n ld x N = N by unfold dlN; rw [if_neg (by rw [h0]; decide), hcl, if_pos hr0]] at hX
          refine j_iconst (v := 0) h d_Mod_hears_118 (by decide) ?_
          exact j_zret hX d_Mod_hears_119 rfl (Or.inl rfl) (Nat.le_refl _) (Nat.le_refl _) ⟨rfl, rfl, rfl, D, rfl, DK.refl _, hm⟩
      · refine j_aload_n h d_Mod_hears_80 rfl ?_
        refine j_getR h d_Mod_hears_81 fl_Mod_7 rfl (by assumption) (mP ms (a := 10) (by decide)) ?_
        refine j_iload_n h d_Mod_hears_84 rfl ?_
        refine m_iald2 (a := 10) (L := 2) (j := s) h ms d_Mod_hears_85 (by decide) rfl (by decide) rfl rfl (by omega) ?_
        refine j_iconst (v := 3) h d_Mod_hears_86 (by decide) ?_
        refine j_ic_ne (tgt := 94) h d_Mod_hears_87 (by decide) (fun c8 => ?_) (fun c8 => ?_)
        · refine j_iconst (v := 0) h d_Mod_hears_94 (by decide) ?_
          refine j_istore_n h d_Mod_hears_95 (Nat.lt_of_lt_of_eq (m := 4) (by decide) hN.symm) ?_
          refine j_aload_n h d_Mod_hears_96 rfl ?_
          refine j_iconst (v := 0) h d_Mod_hears_97 (by decide) ?_
          refine m_iald3e (a := 38) (L := 14) (j := 0) (v := 4) h ms d_Mod_hears_98 (by decide) rfl (by decide) rfl rfl (by omega) ((hrd 0 (by decide)).trans h0) ?_
          refine j_if_ne (tgt := 109) h d_Mod_hears_99 (by decide) (fun c9 => ?_) (fun c9 => absurd c9 (by decide))
          refine j_aload_n h d_Mod_hears_109 rfl ?_
          refine j_getR h d_Mod_hears_110 fl_Mod_7 rfl (by assumption) (mP ms (a := 10) (by decide)) ?_
          refine j_iload_n h d_Mod_hears_113 rfl ?_
          refine m_iald2 (a := 10) (L := 2) (j := s) h ms d_Mod_hears_114 (by decide) rfl (by decide) rfl rfl (by omega) ?_
          refine j_if_ne (tgt := 120) h d_Mod_hears_115 (by decide) (fun c10 => ?_) (fun c10 => ?_)
          · have hr1 : hrs C s (x 0) = 1 := by unfold hrs; rw [h0]; exact b01_t (by clear hX h hl; first | (simp_all; done) | grind)
            have ha0 : ¬ C 0 s = 0 := by clear hX h hl; first | (simp_all; done) | grind
            rw [eR, hr1, show dlA C n ld x = hrAck C (32 * s + a) s (x 5) (x 6) (x 7) (x 8) by unfold dlA; rw [if_neg (by rw [h0]; decide), hcl, if_neg (by rw [hr1]; decide), if_neg (by rw [h0]; decide), if_neg (by rw [h0]; decide), if_neg (by rw [h0]; decide), hca], show dlN C n ld x N = N by unfold dlN; rw [if_neg (by rw [h0]; decide), hcl, if_neg (by rw [hr1]; decide), if_neg (by rw [h0]; decide), if_neg (by rw [h0]; decide), if_neg (by rw [h0]; decide)]] at hX
            refine j_aload_n h d_Mod_hears_120 rfl ?_
            refine j_iconst (v := 0) h d_Mod_hears_121 (by decide) ?_
            refine m_iald3e (a := 38) (L := 14) (j := 0) (v := 4) h ms d_Mod_hears_122 (by decide) rfl (by decide) rfl rfl (by omega) ((hrd 0 (by decide)).trans h0) ?_
            refine j_iconst (v := 2) h d_Mod_hears_123 (by decide) ?_
            refine j_ic_ne (tgt := 138) h d_Mod_hears_124 (by decide) (fun c11 => ?_) (fun c11 => absurd c11 (by decide))
            refine j_aload_n h d_Mod_hears_138 rfl ?_
            refine j_iconst (v := 0) h d_Mod_hears_139 (by decide) ?_
            refine m_iald3e (a := 38) (L := 14) (j := 0) (v := 4) h ms d_Mod_hears_140 (by decide) rfl (by decide) rfl rfl (by omega) ((hrd 0 (by decide)).trans h0) ?_
            refine j_iconst (v := 3) h d_Mod_hears_141 (by decide) ?_
            refine j_ic_ne (tgt := 154) h d_Mod_hears_142 (by decide) (fun c12 => ?_) (fun c12 => absurd c12 (by decide))
            refine j_aload_n h d_Mod_hears_154 rfl ?_
            refine j_iconst (v := 0) h d_Mod_hears_155 (by decide) ?_
            refine m_iald3e (a := 38) (L := 14) (j := 0) (v := 4) h ms d_Mod_hears_156 (by decide) rfl (by decide) rfl rfl (by omega) ((hrd 0 (by decide)).trans h0) ?_
            refine j_iconst (v := 4) h d_Mod_hears_157 (by decide) ?_
            refine j_ic_ne (tgt := 170) h d_Mod_hears_158 (by decide) (fun c13 => absurd c13 (by decide)) (fun c13 => ?_)
            refine j_aload_n h d_Mod_hears_161 rfl ?_
            refine j_iload_n h d_Mod_hears_162 rfl ?_
            refine j_aload_n h d_Mod_hears_163 rfl ?_
            refine j_callV h (c_Mod_hearAck _ _ _ _ _ _ _ _ ms _ hs _ _ ha hn32 _ hrd hx4) d_Mod_hears_164 ml_Mod_185 mv_Mod_hearAck (by assumption) ⟨rfl, rfl⟩ rfl rfl (Nat.le_of_ble_eq_true rfl) (hR_of hX (by decide) (by decide)) (hf_of hX (by decide) (by decide)) ?_
            rintro _ _ _ _ ⟨rfl, rfl, rfl, rfl⟩
            refine j_goto (tgt := 236) h d_Mod_hears_167 (by decide) ?_
            refine j_iconst (v := 1) h d_Mod_hears_236 (by decide) ?_
            exact j_zret hX d_Mod_hears_237 rfl (Or.inr rfl) (Nat.le_refl _) (Nat.le_refl _) ⟨rfl, rfl, rfl, D, rfl, DK.refl _, hm⟩
          · have hr0 : hrs C s (x 0) = 0 := by unfold hrs; rw [h0]; exact b01_f (by clear hX h hl; first | (simp_all; done) | grind)
            rw [eR, hr0, show dlA C n ld x = C by unfold dlA; rw [if_neg (by rw [h0]; decide), hcl, if_pos hr0], show dlN C n ld x N = N by unfold dlN; rw [if_neg (by rw [h0]; decide), hcl, if_pos hr0]] at hX
            refine j_iconst (v := 0) h d_Mod_hears_118 (by decide) ?_
            exact j_zret hX d_Mod_hears_119 rfl (Or.inl rfl) (Nat.le_refl _) (Nat.le_refl _) ⟨rfl, rfl, rfl, D, rfl, DK.refl _, hm⟩
        · refine j_iconst (v := 1) h d_Mod_hears_90 (by decide) ?_
          refine j_goto (tgt := 95) h d_Mod_hears_91 (by decide) ?_
          refine j_istore_n h d_Mod_hears_95 (Nat.lt_of_lt_of_eq (m := 4) (by decide) hN.symm) ?_
          refine j_aload_n h d_Mod_hears_96 rfl ?_
          refine j_iconst (v := 0) h d_Mod_hears_97 (by decide) ?_
          refine m_iald3e (a := 38) (L := 14) (j := 0) (v := 4) h ms d_Mod_hears_98 (by decide) rfl (by decide) rfl rfl (by omega) ((hrd 0 (by decide)).trans h0) ?_
          refine j_if_ne (tgt := 109) h d_Mod_hears_99 (by decide) (fun c14 => ?_) (fun c14 => absurd c14 (by decide))
          refine j_aload_n h d_Mod_hears_109 rfl ?_
          refine j_getR h d_Mod_hears_110 fl_Mod_7 rfl (by assumption) (mP ms (a := 10) (by decide)) ?_
          refine j_iload_n h d_Mod_hears_113 rfl ?_
          refine m_iald2 (a := 10) (L := 2) (j := s) h ms d_Mod_hears_114 (by decide) rfl (by decide) rfl rfl (by omega) ?_
          refine j_if_ne (tgt := 120) h d_Mod_hears_115 (by decide) (fun c15 => ?_) (fun c15 => ?_)
          · have hr1 : hrs C s (x 0) = 1 := by unfold hrs; rw [h0]; exact b01_t (by clear hX h hl; first | (simp_all; done) | grind)
            have ha0 : ¬ C 0 s = 0 := by clear hX h hl; first | (simp_all; done) | grind
            rw [eR, hr1, show dlA C n ld x = hrAck C (32 * s + a) s (x 5) (x 6) (x 7) (x 8) by unfold dlA; rw [if_neg (by rw [h0]; decide), hcl, if_neg (by rw [hr1]; decide), if_neg (by rw [h0]; decide), if_neg (by rw [h0]; decide), if_neg (by rw [h0]; decide), hca], show dlN C n ld x N = N by unfold dlN; rw [if_neg (by rw [h0]; decide), hcl, if_neg (by rw [hr1]; decide), if_neg (by rw [h0]; decide), if_neg (by rw [h0]; decide), if_neg (by rw [h0]; decide)]] at hX
            refine j_aload_n h d_Mod_hears_120 rfl ?_
            refine j_iconst (v := 0) h d_Mod_hears_121 (by decide) ?_
            refine m_iald3e (a := 38) (L := 14) (j := 0) (v := 4) h ms d_Mod_hears_122 (by decide) rfl (by decide) rfl rfl (by omega) ((hrd 0 (by decide)).trans h0) ?_
            refine j_iconst (v := 2) h d_Mod_hears_123 (by decide) ?_
            refine j_ic_ne (tgt := 138) h d_Mod_hears_124 (by decide) (fun c16 => ?_) (fun c16 => absurd c16 (by decide))
            refine j_aload_n h d_Mod_hears_138 rfl ?_
            refine j_iconst (v := 0) h d_Mod_hears_139 (by decide) ?_
            refine m_iald3e (a := 38) (L := 14) (j := 0) (v := 4) h ms d_Mod_hears_140 (by decide) rfl (by decide) rfl rfl (by omega) ((hrd 0 (by decide)).trans h0) ?_
            refine j_iconst (v := 3) h d_Mod_hears_141 (by decide) ?_
            refine j_ic_ne (tgt := 154) h d_Mod_hears_142 (by decide) (fun c17 => ?_) (fun c17 => absurd c17 (by decide))
            refine j_aload_n h d_Mod_hears_154 rfl ?_
            refine j_iconst (v := 0) h d_Mod_hears_155 (by decide) ?_
            refine m_iald3e (a := 38) (L := 14) (j := 0) (v := 4) h ms d_Mod_hears_156 (by decide) rfl (by decide) rfl rfl (by omega) ((hrd 0 (by decide)).trans h0) ?_
            refine j_iconst (v := 4) h d_Mod_hears_157 (by decide) ?_
            refine j_ic_ne (tgt := 170) h d_Mod_hears_158 (by decide) (fun c18 => absurd c18 (by decide)) (fun c18 => ?_)
            refine j_aload_n h d_Mod_hears_161 rfl ?_
            refine j_iload_n h d_Mod_hears_162 rfl ?_
            refine j_aload_n h d_Mod_hears_163 rfl ?_
            refine j_callV h (c_Mod_hearAck _ _ _ _ _ _ _ _ ms _ hs _ _ ha hn32 _ hrd hx4) d_Mod_hears_164 ml_Mod_185 mv_Mod_hearAck (by assumption) ⟨rfl, rfl⟩ rfl rfl (Nat.le_of_ble_eq_true rfl) (hR_of hX (by decide) (by decide)) (hf_of hX (by decide) (by decide)) ?_
            rintro _ _ _ _ ⟨rfl, rfl, rfl, rfl⟩
            refine j_goto (tgt := 236) h d_Mod_hears_167 (by decide) ?_
            refine j_iconst (v := 1) h d_Mod_hears_236 (by decide) ?_
            exact j_zret hX d_Mod_hears_237 rfl (Or.inr rfl) (Nat.le_refl _) (Nat.le_refl _) ⟨rfl, rfl, rfl, D, rfl, DK.refl _, hm⟩
          · have hr0 : hrs C s (x 0) = 0 := by unfold hrs; rw [h0]; exact b01_f (by clear hX h hl; first | (simp_all; done) | grind)
            rw [eR, hr0, show dlA C n ld x = C by unfold dlA; rw [if_neg (by rw [h0]; decide), hcl, if_pos hr0], show dlN C n ld x N = N by unfold dlN; rw [if_neg (by rw [h0]; decide), hcl, if_pos hr0]] at hX
            refine j_iconst (v := 0) h d_Mod_hears_118 (by decide) ?_
            exact j_zret hX d_Mod_hears_119 rfl (Or.inl rfl) (Nat.le_refl _) (Nat.le_refl _) ⟨rfl, rfl, rfl, D, rfl, DK.refl _, hm⟩
