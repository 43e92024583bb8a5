/-! the model: taking in -/
theorem gv_clk (C : MI) (r s q : Nat) (k vd sn : Int32) : clk (gvWay C r s k vd sn) q = clk C q := by
  unfold gvWay settle clk
  split
  · rfl
  · split <;> rfl
theorem mE1 {A : MI} {r : Nat} {t rel rq y : Int32} : ¬ mayEnd1 A r t rel rq y = 0 ↔ mayEnd A r t rel rq y := by
  unfold mayEnd1
  split
  · rename_i h; exact ⟨fun _ => h, fun _ => by decide⟩
  · rename_i h; exact ⟨fun q => absurd rfl q, fun q => absurd q h⟩
theorem d_Mod_takes_0 : decode b_Mod_takes 0 = .ok (.aload_n 3, 1) := by decide +kernel
theorem d_Mod_takes_1 : decode b_Mod_takes 1 = .ok (.iconst 3, 1) := by decide +kernel
theorem d_Mod_takes_2 : decode b_Mod_takes 2 = .ok (.iaload, 1) := by decide +kernel
theorem d_Mod_takes_3 : decode b_Mod_takes 3 = .ok (.istore 4, 2) := by decide +kernel
theorem d_Mod_takes_5 : decode b_Mod_takes 5 = .ok (.aload_n 3, 1) := by decide +kernel
theorem d_Mod_takes_6 : decode b_Mod_takes 6 = .ok (.bipush 13, 2) := by decide +kernel
theorem d_Mod_takes_8 : decode b_Mod_takes 8 = .ok (.iaload, 1) := by decide +kernel
theorem d_Mod_takes_9 : decode b_Mod_takes 9 = .ok (.aload_n 0, 1) := by decide +kernel
theorem d_Mod_takes_10 : decode b_Mod_takes 10 = .ok (.getfield 19, 3) := by decide +kernel
theorem d_Mod_takes_13 : decode b_Mod_takes 13 = .ok (.iload_n 1, 1) := by decide +kernel
theorem d_Mod_takes_14 : decode b_Mod_takes 14 = .ok (.iaload, 1) := by decide +kernel
theorem d_Mod_takes_15 : decode b_Mod_takes 15 = .ok (.if_icmp .lt 17, 3) := by decide +kernel
theorem d_Mod_takes_18 : decode b_Mod_takes 18 = .ok (.aload_n 0, 1) := by decide +kernel
theorem d_Mod_takes_19 : decode b_Mod_takes 19 = .ok (.getfield 7, 3) := by decide +kernel
theorem d_Mod_takes_22 : decode b_Mod_takes 22 = .ok (.iload_n 1, 1) := by decide +kernel
theorem d_Mod_takes_23 : decode b_Mod_takes 23 = .ok (.iaload, 1) := by decide +kernel
theorem d_Mod_takes_24 : decode b_Mod_takes 24 = .ok (.iconst 1, 1) := by decide +kernel
theorem d_Mod_takes_25 : decode b_Mod_takes 25 = .ok (.if_icmp .ne 7, 3) := by decide +kernel
theorem d_Mod_takes_28 : decode b_Mod_takes 28 = .ok (.iconst 1, 1) := by decide +kernel
theorem d_Mod_takes_29 : decode b_Mod_takes 29 = .ok (.goto 4, 3) := by decide +kernel
theorem d_Mod_takes_32 : decode b_Mod_takes 32 = .ok (.iconst 0, 1) := by decide +kernel
theorem d_Mod_takes_33 : decode b_Mod_takes 33 = .ok (.istore 5, 2) := by decide +kernel
theorem d_Mod_takes_35 : decode b_Mod_takes 35 = .ok (.iload 5, 2) := by decide +kernel
theorem d_Mod_takes_37 : decode b_Mod_takes 37 = .ok (.ifCond .ne 31, 3) := by decide +kernel
theorem d_Mod_takes_40 : decode b_Mod_takes 40 = .ok (.aload_n 0, 1) := by decide +kernel
theorem d_Mod_takes_41 : decode b_Mod_takes 41 = .ok (.getfield 34, 3) := by decide +kernel
theorem d_Mod_takes_44 : decode b_Mod_takes 44 = .ok (.iload_n 2, 1) := by decide +kernel
theorem d_Mod_takes_45 : decode b_Mod_takes 45 = .ok (.iaload, 1) := by decide +kernel
theorem d_Mod_takes_46 : decode b_Mod_takes 46 = .ok (.iconst 4, 1) := by decide +kernel
theorem d_Mod_takes_47 : decode b_Mod_takes 47 = .ok (.if_icmp .ne 41, 3) := by decide +kernel
theorem d_Mod_takes_50 : decode b_Mod_takes 50 = .ok (.aload_n 3, 1) := by decide +kernel
theorem d_Mod_takes_51 : decode b_Mod_takes 51 = .ok (.bipush 12, 2) := by decide +kernel
theorem d_Mod_takes_53 : decode b_Mod_takes 53 = .ok (.iaload, 1) := by decide +kernel
theorem d_Mod_takes_54 : decode b_Mod_takes 54 = .ok (.aload_n 0, 1) := by decide +kernel
theorem d_Mod_takes_55 : decode b_Mod_takes 55 = .ok (.getfield 50, 3) := by decide +kernel
theorem d_Mod_takes_58 : decode b_Mod_takes 58 = .ok (.iload_n 2, 1) := by decide +kernel
theorem d_Mod_takes_59 : decode b_Mod_takes 59 = .ok (.iaload, 1) := by decide +kernel
theorem d_Mod_takes_60 : decode b_Mod_takes 60 = .ok (.if_icmp .ne 28, 3) := by decide +kernel
theorem d_Mod_takes_63 : decode b_Mod_takes 63 = .ok (.iload 4, 2) := by decide +kernel
theorem d_Mod_takes_65 : decode b_Mod_takes 65 = .ok (.ifCond .eq 23, 3) := by decide +kernel
theorem d_Mod_takes_68 : decode b_Mod_takes 68 = .ok (.aload_n 0, 1) := by decide +kernel
theorem d_Mod_takes_69 : decode b_Mod_takes 69 = .ok (.iload_n 2, 1) := by decide +kernel
theorem d_Mod_takes_70 : decode b_Mod_takes 70 = .ok (.iload 5, 2) := by decide +kernel
theorem d_Mod_takes_72 : decode b_Mod_takes 72 = .ok (.ifCond .eq 12, 3) := by decide +kernel
theorem d_Mod_takes_75 : decode b_Mod_takes 75 = .ok (.iload 4, 2) := by decide +kernel
theorem d_Mod_takes_77 : decode b_Mod_takes 77 = .ok (.ifCond .ne 7, 3) := by decide +kernel
theorem d_Mod_takes_80 : decode b_Mod_takes 80 = .ok (.iconst 1, 1) := by decide +kernel
theorem d_Mod_takes_81 : decode b_Mod_takes 81 = .ok (.goto 4, 3) := by decide +kernel
theorem d_Mod_takes_84 : decode b_Mod_takes 84 = .ok (.iconst 0, 1) := by decide +kernel
theorem d_Mod_takes_85 : decode b_Mod_takes 85 = .ok (.invokevirtual 158, 3) := by decide +kernel
theorem d_Mod_takes_88 : decode b_Mod_takes 88 = .ok (.aload_n 0, 1) := by decide +kernel
theorem d_Mod_takes_89 : decode b_Mod_takes 89 = .ok (.getfield 37, 3) := by decide +kernel
theorem d_Mod_takes_92 : decode b_Mod_takes 92 = .ok (.iload_n 2, 1) := by decide +kernel
theorem d_Mod_takes_93 : decode b_Mod_takes 93 = .ok (.iaload, 1) := by decide +kernel
theorem d_Mod_takes_94 : decode b_Mod_takes 94 = .ok (.aload_n 3, 1) := by decide +kernel
theorem d_Mod_takes_95 : decode b_Mod_takes 95 = .ok (.bipush 9, 2) := by decide +kernel
theorem d_Mod_takes_97 : decode b_Mod_takes 97 = .ok (.iaload, 1) := by decide +kernel
theorem d_Mod_takes_98 : decode b_Mod_takes 98 = .ok (.if_icmp .ne 7, 3) := by decide +kernel
theorem d_Mod_takes_101 : decode b_Mod_takes 101 = .ok (.iconst 1, 1) := by decide +kernel
theorem d_Mod_takes_102 : decode b_Mod_takes 102 = .ok (.goto 4, 3) := by decide +kernel
theorem d_Mod_takes_105 : decode b_Mod_takes 105 = .ok (.iconst 0, 1) := by decide +kernel
theorem d_Mod_takes_106 : decode b_Mod_takes 106 = .ok (.istore 6, 2) := by decide +kernel
theorem d_Mod_takes_108 : decode b_Mod_takes 108 = .ok (.iload 4, 2) := by decide +kernel
theorem d_Mod_takes_110 : decode b_Mod_takes 110 = .ok (.iconst 2, 1) := by decide +kernel
theorem d_Mod_takes_111 : decode b_Mod_takes 111 = .ok (.if_icmp .ne 12, 3) := by decide +kernel
theorem d_Mod_takes_114 : decode b_Mod_takes 114 = .ok (.aload_n 0, 1) := by decide +kernel
theorem d_Mod_takes_115 : decode b_Mod_takes 115 = .ok (.iload_n 2, 1) := by decide +kernel
theorem d_Mod_takes_116 : decode b_Mod_takes 116 = .ok (.aload_n 3, 1) := by decide +kernel
theorem d_Mod_takes_117 : decode b_Mod_takes 117 = .ok (.iload 6, 2) := by decide +kernel
theorem d_Mod_takes_119 : decode b_Mod_takes 119 = .ok (.invokevirtual 161, 3) := by decide +kernel
theorem d_Mod_takes_122 : decode b_Mod_takes 122 = .ok (.ireturn, 1) := by decide +kernel
theorem d_Mod_takes_123 : decode b_Mod_takes 123 = .ok (.iload 4, 2) := by decide +kernel
theorem d_Mod_takes_125 : decode b_Mod_takes 125 = .ok (.iconst 3, 1) := by decide +kernel
theorem d_Mod_takes_126 : decode b_Mod_takes 126 = .ok (.if_icmp .ne 140, 3) := by decide +kernel
theorem d_Mod_takes_129 : decode b_Mod_takes 129 = .ok (.aload_n 0, 1) := by decide +kernel
theorem d_Mod_takes_130 : decode b_Mod_takes 130 = .ok (.getfield 34, 3) := by decide +kernel
theorem d_Mod_takes_133 : decode b_Mod_takes 133 = .ok (.iload_n 2, 1) := by decide +kernel
theorem d_Mod_takes_134 : decode b_Mod_takes 134 = .ok (.iaload, 1) := by decide +kernel
theorem d_Mod_takes_135 : decode b_Mod_takes 135 = .ok (.iconst 2, 1) := by decide +kernel
theorem d_Mod_takes_136 : decode b_Mod_takes 136 = .ok (.if_icmp .ne 47, 3) := by decide +kernel
theorem d_Mod_takes_139 : decode b_Mod_takes 139 = .ok (.iload 6, 2) := by decide +kernel
theorem d_Mod_takes_141 : decode b_Mod_takes 141 = .ok (.ifCond .eq 42, 3) := by decide +kernel
theorem d_Mod_takes_144 : decode b_Mod_takes 144 = .ok (.aload_n 0, 1) := by decide +kernel
theorem d_Mod_takes_145 : decode b_Mod_takes 145 = .ok (.getfield 40, 3) := by decide +kernel
theorem d_Mod_takes_148 : decode b_Mod_takes 148 = .ok (.iload_n 2, 1) := by decide +kernel
theorem d_Mod_takes_149 : decode b_Mod_takes 149 = .ok (.iaload, 1) := by decide +kernel
theorem d_Mod_takes_150 : decode b_Mod_takes 150 = .ok (.aload_n 0, 1) := by decide +kernel
theorem d_Mod_takes_151 : decode b_Mod_takes 151 = .ok (.iload_n 1, 1) := by decide +kernel
theorem d_Mod_takes_152 : decode b_Mod_takes 152 = .ok (.invokevirtual 128, 3) := by decide +kernel
theorem d_Mod_takes_155 : decode b_Mod_takes 155 = .ok (.if_icmp .le 24, 3) := by decide +kernel
theorem d_Mod_takes_158 : decode b_Mod_takes 158 = .ok (.aload_n 3, 1) := by decide +kernel
theorem d_Mod_takes_159 : decode b_Mod_takes 159 = .ok (.bipush 11, 2) := by decide +kernel
theorem d_Mod_takes_161 : decode b_Mod_takes 161 = .ok (.iaload, 1) := by decide +kernel
theorem d_Mod_takes_162 : decode b_Mod_takes 162 = .ok (.iconst 1, 1) := by decide +kernel
theorem d_Mod_takes_163 : decode b_Mod_takes 163 = .ok (.if_icmp .ne 20, 3) := by decide +kernel
theorem d_Mod_takes_166 : decode b_Mod_takes 166 = .ok (.aload_n 3, 1) := by decide +kernel
theorem d_Mod_takes_167 : decode b_Mod_takes 167 = .ok (.bipush 10, 2) := by decide +kernel
theorem d_Mod_takes_169 : decode b_Mod_takes 169 = .ok (.iaload, 1) := by decide +kernel
theorem d_Mod_takes_170 : decode b_Mod_takes 170 = .ok (.aload_n 0, 1) := by decide +kernel
theorem d_Mod_takes_171 : decode b_Mod_takes 171 = .ok (.getfield 43, 3) := by decide +kernel
theorem d_Mod_takes_174 : decode b_Mod_takes 174 = .ok (.iload_n 2, 1) := by decide +kernel
theorem d_Mod_takes_175 : decode b_Mod_takes 175 = .ok (.iaload, 1) := by decide +kernel
theorem d_Mod_takes_176 : decode b_Mod_takes 176 = .ok (.if_icmp .le 7, 3) := by decide +kernel
theorem d_Mod_takes_179 : decode b_Mod_takes 179 = .ok (.iconst 1, 1) := by decide +kernel
theorem d_Mod_takes_180 : decode b_Mod_takes 180 = .ok (.goto 4, 3) := by decide +kernel
theorem d_Mod_takes_183 : decode b_Mod_takes 183 = .ok (.iconst 0, 1) := by decide +kernel
theorem d_Mod_takes_184 : decode b_Mod_takes 184 = .ok (.istore 7, 2) := by decide +kernel
theorem d_Mod_takes_186 : decode b_Mod_takes 186 = .ok (.iload 7, 2) := by decide +kernel
theorem d_Mod_takes_188 : decode b_Mod_takes 188 = .ok (.ifCond .ne 23, 3) := by decide +kernel
theorem d_Mod_takes_191 : decode b_Mod_takes 191 = .ok (.aload_n 0, 1) := by decide +kernel
theorem d_Mod_takes_192 : decode b_Mod_takes 192 = .ok (.getfield 34, 3) := by decide +kernel
theorem d_Mod_takes_195 : decode b_Mod_takes 195 = .ok (.iload_n 2, 1) := by decide +kernel
theorem d_Mod_takes_196 : decode b_Mod_takes 196 = .ok (.iaload, 1) := by decide +kernel
theorem d_Mod_takes_197 : decode b_Mod_takes 197 = .ok (.iconst 3, 1) := by decide +kernel
theorem d_Mod_takes_198 : decode b_Mod_takes 198 = .ok (.if_icmp .ne 17, 3) := by decide +kernel
theorem d_Mod_takes_201 : decode b_Mod_takes 201 = .ok (.iload 6, 2) := by decide +kernel
theorem d_Mod_takes_203 : decode b_Mod_takes 203 = .ok (.ifCond .eq 12, 3) := by decide +kernel
theorem d_Mod_takes_206 : decode b_Mod_takes 206 = .ok (.iload_n 1, 1) := by decide +kernel
theorem d_Mod_takes_207 : decode b_Mod_takes 207 = .ok (.iconst 1, 1) := by decide +kernel
theorem d_Mod_takes_208 : decode b_Mod_takes 208 = .ok (.if_icmp .ne 7, 3) := by decide +kernel
theorem d_Mod_takes_211 : decode b_Mod_takes 211 = .ok (.iconst 1, 1) := by decide +kernel
theorem d_Mod_takes_212 : decode b_Mod_takes 212 = .ok (.goto 4, 3) := by decide +kernel
theorem d_Mod_takes_215 : decode b_Mod_takes 215 = .ok (.iconst 0, 1) := by decide +kernel
theorem d_Mod_takes_216 : decode b_Mod_takes 216 = .ok (.istore 7, 2) := by decide +kernel
theorem d_Mod_takes_218 : decode b_Mod_takes 218 = .ok (.iload 7, 2) := by decide +kernel
theorem d_Mod_takes_220 : decode b_Mod_takes 220 = .ok (.ifCond .ne 14, 3) := by decide +kernel
theorem d_Mod_takes_223 : decode b_Mod_takes 223 = .ok (.aload_n 0, 1) := by decide +kernel
theorem d_Mod_takes_224 : decode b_Mod_takes 224 = .ok (.getfield 34, 3) := by decide +kernel
theorem d_Mod_takes_227 : decode b_Mod_takes 227 = .ok (.iload_n 2, 1) := by decide +kernel
theorem d_Mod_takes_228 : decode b_Mod_takes 228 = .ok (.iaload, 1) := by decide +kernel
theorem d_Mod_takes_229 : decode b_Mod_takes 229 = .ok (.ifCond .eq 5, 3) := by decide +kernel
theorem d_Mod_takes_232 : decode b_Mod_takes 232 = .ok (.iconst 0, 1) := by decide +kernel
theorem d_Mod_takes_233 : decode b_Mod_takes 233 = .ok (.ireturn, 1) := by decide +kernel
theorem d_Mod_takes_234 : decode b_Mod_takes 234 = .ok (.aload_n 0, 1) := by decide +kernel
theorem d_Mod_takes_235 : decode b_Mod_takes 235 = .ok (.getfield 40, 3) := by decide +kernel
theorem d_Mod_takes_238 : decode b_Mod_takes 238 = .ok (.iload_n 2, 1) := by decide +kernel
theorem d_Mod_takes_239 : decode b_Mod_takes 239 = .ok (.aload_n 0, 1) := by decide +kernel
theorem d_Mod_takes_240 : decode b_Mod_takes 240 = .ok (.getfield 40, 3) := by decide +kernel
theorem d_Mod_takes_243 : decode b_Mod_takes 243 = .ok (.iload_n 2, 1) := by decide +kernel
theorem d_Mod_takes_244 : decode b_Mod_takes 244 = .ok (.iaload, 1) := by decide +kernel
theorem d_Mod_takes_245 : decode b_Mod_takes 245 = .ok (.aload_n 3, 1) := by decide +kernel
theorem d_Mod_takes_246 : decode b_Mod_takes 246 = .ok (.bipush 6, 2) := by decide +kernel
theorem d_Mod_takes_248 : decode b_Mod_takes 248 = .ok (.iaload, 1) := by decide +kernel
theorem d_Mod_takes_249 : decode b_Mod_takes 249 = .ok (.invokestatic 150, 3) := by decide +kernel
theorem d_Mod_takes_252 : decode b_Mod_takes 252 = .ok (.iastore, 1) := by decide +kernel
theorem d_Mod_takes_253 : decode b_Mod_takes 253 = .ok (.iload 7, 2) := by decide +kernel
theorem d_Mod_takes_255 : decode b_Mod_takes 255 = .ok (.ifCond .eq 9, 3) := by decide +kernel
theorem d_Mod_takes_258 : decode b_Mod_takes 258 = .ok (.aload_n 0, 1) := by decide +kernel
theorem d_Mod_takes_259 : decode b_Mod_takes 259 = .ok (.iload_n 2, 1) := by decide +kernel
theorem d_Mod_takes_260 : decode b_Mod_takes 260 = .ok (.iconst 0, 1) := by decide +kernel
theorem d_Mod_takes_261 : decode b_Mod_takes 261 = .ok (.invokevirtual 158, 3) := by decide +kernel
theorem d_Mod_takes_264 : decode b_Mod_takes 264 = .ok (.iconst 1, 1) := by decide +kernel
theorem d_Mod_takes_265 : decode b_Mod_takes 265 = .ok (.ireturn, 1) := by decide +kernel
theorem d_Mod_takes_266 : decode b_Mod_takes 266 = .ok (.iload 4, 2) := by decide +kernel
theorem d_Mod_takes_268 : decode b_Mod_takes 268 = .ok (.iconst 4, 1) := by decide +kernel
theorem d_Mod_takes_269 : decode b_Mod_takes 269 = .ok (.if_icmp .ne 20, 3) := by decide +kernel
theorem d_Mod_takes_272 : decode b_Mod_takes 272 = .ok (.aload_n 0, 1) := by decide +kernel
theorem d_Mod_takes_273 : decode b_Mod_takes 273 = .ok (.getfield 34, 3) := by decide +kernel
theorem d_Mod_takes_276 : decode b_Mod_takes 276 = .ok (.iload_n 2, 1) := by decide +kernel
theorem d_Mod_takes_277 : decode b_Mod_takes 277 = .ok (.iaload, 1) := by decide +kernel
theorem d_Mod_takes_278 : decode b_Mod_takes 278 = .ok (.ifCond .ne 11, 3) := by decide +kernel
theorem d_Mod_takes_281 : decode b_Mod_takes 281 = .ok (.aload_n 0, 1) := by decide +kernel
theorem d_Mod_takes_282 : decode b_Mod_takes 282 = .ok (.iload_n 2, 1) := by decide +kernel
theorem d_Mod_takes_283 : decode b_Mod_takes 283 = .ok (.iconst 1, 1) := by decide +kernel
theorem d_Mod_takes_284 : decode b_Mod_takes 284 = .ok (.invokevirtual 158, 3) := by decide +kernel
theorem d_Mod_takes_287 : decode b_Mod_takes 287 = .ok (.iconst 1, 1) := by decide +kernel
theorem d_Mod_takes_288 : decode b_Mod_takes 288 = .ok (.ireturn, 1) := by decide +kernel
theorem d_Mod_takes_289 : decode b_Mod_takes 289 = .ok (.iload 4, 2) := by decide +kernel
theorem d_Mod_takes_291 : decode b_Mod_takes 291 = .ok (.ifCond .eq 18, 3) := by decide +kernel
theorem d_Mod_takes_294 : decode b_Mod_takes 294 = .ok (.iload 4, 2) := by decide +kernel
theorem d_Mod_takes_296 : decode b_Mod_takes 296 = .ok (.iconst 1, 1) := by decide +kernel
theorem d_Mod_takes_297 : decode b_Mod_takes 297 = .ok (.if_icmp .ne 16, 3) := by decide +kernel
theorem d_Mod_takes_300 : decode b_Mod_takes 300 = .ok (.aload_n 0, 1) := by decide +kernel
theorem d_Mod_takes_301 : decode b_Mod_takes 301 = .ok (.getfield 34, 3) := by decide +kernel
theorem d_Mod_takes_304 : decode b_Mod_takes 304 = .ok (.iload_n 2, 1) := by decide +kernel
theorem d_Mod_takes_305 : decode b_Mod_takes 305 = .ok (.iaload, 1) := by decide +kernel
theorem d_Mod_takes_306 : decode b_Mod_takes 306 = .ok (.ifCond .ne 7, 3) := by decide +kernel
theorem d_Mod_takes_309 : decode b_Mod_takes 309 = .ok (.iconst 1, 1) := by decide +kernel
theorem d_Mod_takes_310 : decode b_Mod_takes 310 = .ok (.goto 4, 3) := by decide +kernel
theorem d_Mod_takes_313 : decode b_Mod_takes 313 = .ok (.iconst 0, 1) := by decide +kernel
theorem d_Mod_takes_314 : decode b_Mod_takes 314 = .ok (.ireturn, 1) := by decide +kernel
set_option maxRecDepth 100000 in
set_option maxHeartbeats 4000000 in
theorem c_Mod_takes (l : Launch) (K : Kx) (V : Vx) (A B C D : MI) (P : MP) (ms : MSt K V P) (s : Nat) (hs : s < 2) (r : Nat) (hr : r < 64) (x : Msg) (hrd : ∀ w, w < 14 → D 75 w = x w) (hk3 : x 3 = 0 ∨ x 3 = 1 ∨ x 3 = 2 ∨ x 3 = 3 ∨ x 3 = 4) (h11 : x 11 = 0 ∨ x 11 = 1) : Ct l K md_Mod_takes (2, 48) 0 0 [.ref (K.ad 6 0), .int (nI s), .int (nI r), .ref (K.aad 38)] V (bk4 A B C D) P (EQ V (some (.int (tkIn C r s (nI s) (clk C s) (x 3) (x 9) (x 6) (x 10) (x 11) (x 13) (x 12)).1)) (bk4 A B (tkIn C r s (nI s) (clk C s) (x 3) (x 9) (x 6) (x 10) (x 11) (x 13) (x 12)).2 D) P) := by
  refine ct_of [(0, .ref (K.ad 6 0)), (1, .int (nI s)), (2, .int (nI r)), (3, .ref (K.aad 38))] (by decide) (Nat.le_of_ble_eq_true rfl) (ca_r (ca_i (ca_i (ca_r ca_n)))) rfl ?_
  intro X hl hX
  have h : OkX X b_Mod_takes R_Mod K := hX.1
  have hN : X.nL = 8 := hX.2.1
  have hmv := ms.1
  have h88 : ∀ G : MI, G = gvWay C r s (x 3) (x 13) (x 12) → J X K V (bk4 A B G D) P 0 0 88 [(0, .ref (K.ad 6 0)), (1, .int (nI s)), (2, .int (nI r)), (3, .ref (K.aad 38)), (4, .int (x 3))] [] := by
    intro G eG
    have eC : clk G s = clk C s := by rw [eG, gv_clk]
    have eT : (tkIn C r s (nI s) (clk C s) (x 3) (x 9) (x 6) (x 10) (x 11) (x 13) (x 12)) = (if x 3 = 2 then tkBound G r (x 9) (x 6) (x 10) else if x 3 = 3 then tkEnding G r (x 9) (x 6) (clk G s) (x 11) (x 10) (b01 (nI s = 1)) else if x 3 = 4 then tkGiven G r else if x 3 = 1 then (b01 (G 10 r = 0), G) else (1, G)) := by
      unfold tkIn
      rw [← eG, eC]
    rw [eT] at hX
    clear eT eG eC
    have h218 : ∀ w : Int32, x 3 = 3 → ((w = 0 ∧ ¬ (G 11 r = x 9 ∧ mayEnd G r (clk G s) (x 11) (x 10) (b01 (nI s = 1)))) ∨ (w = 1 ∧ (G 11 r = x 9 ∧ mayEnd G r (clk G s) (x 11) (x 10) (b01 (nI s = 1))))) → J X K V (bk4 A B G D) P 0 0 218 [(0, .ref (K.ad 6 0)), (1, .int (nI s)), (2, .int (nI r)), (3, .ref (K.aad 38)), (4, .int (x 3)), (6, .int (b01 (G 11 r = x 9))), (7, .int w)] [] := by
      intro w h3 hw
      rw [if_neg (by rw [h3]; decide), if_pos h3] at hX
      rcases hw with ⟨rfl, hw⟩ | ⟨rfl, hw⟩
      · refine j_iload h d_Mod_takes_218 rfl ?_
        refine j_if_ne (tgt := 234) h d_Mod_takes_220 (by decide) (fun c1 => absurd c1 (by decide)) (fun c1 => ?_)
        refine j_aload_n h d_Mod_takes_223 rfl ?_
        refine j_getR h d_Mod_takes_224 fl_Mod_34 rfl (by assumption) (mP ms (a := 18) (by decide)) ?_
        refine j_iload_n h d_Mod_takes_227 rfl ?_
        refine m_iald2 (a := 18) (L := 64) (j := r) h ms d_Mod_takes_228 (by decide) rfl (by decide) rfl rfl (by omega) ?_
        refine j_if_eq (tgt := 234) h d_Mod_takes_229 (by decide) (fun c => ?_) (fun c => ?_)
        · have hE : (tkEnding G r (x 9) (x 6) (clk G s) (x 11) (x 10) (b01 (nI s = 1))) = (1, up G 12 r (gr (G 12 r) (x 6))) := by unfold tkEnding; rw [if_pos c]
          refine j_aload_n h d_Mod_takes_234 rfl ?_
          refine j_getR h d_Mod_takes_235 fl_Mod_40 rfl (by assumption) (mP ms (a := 20) (by decide)) ?_
          refine j_iload_n h d_Mod_takes_238 rfl ?_
          refine j_aload_n h d_Mod_takes_239 rfl ?_
          refine j_getR h d_Mod_takes_240 fl_Mod_40 rfl (by assumption) (mP ms (a := 20) (by decide)) ?_
          refine j_iload_n h d_Mod_takes_243 rfl ?_
          refine m_iald2 (a := 20) (L := 64) (j := r) h ms d_Mod_takes_244 (by decide) rfl (by decide) rfl rfl (by omega) ?_
          refine j_aload_n h d_Mod_takes_245 rfl ?_
          refine j_bipush (v := 6) h d_Mod_takes_246 (by decide) ?_
          refine m_iald3e (a := 38) (L := 14) (j := 6) (v := x 6) h ms d_Mod_takes_248 (by decide) rfl (by decide) rfl rfl (by omega) (hrd 6 (by decide)) ?_
          refine j_callS h (c_Mod_greater _ _ _ _ _ _ _ _ _ _) d_Mod_takes_249 ml_Mod_150 ms_Mod_greater rfl rfl (Nat.le_of_ble_eq_true rfl) (hR_of hX (by decide) (by decide)) (hf_of hX (by decide) (by decide)) ?_
          rintro _ _ _ _ ⟨rfl, rfl, rfl, rfl⟩
          refine m_iast2 (a := 20) (L := 64) (j := r) h ms d_Mod_takes_252 (by decide) rfl (by decide) rfl rfl (by omega) ?_
          refine j_iload h d_Mod_takes_253 rfl ?_
          refine j_if_eq (tgt := 264) h d_Mod_takes_255 (by decide) (fun c1 => ?_) (fun c1 => absurd c1 (by decide))
          refine j_iconst (v := 1) h d_Mod_takes_264 (by decide) ?_
          exact j_zret hX d_Mod_takes_265 rfl (by first | exact Or.inl rfl | exact Or.inr rfl | exact b01_z _ | assumption) (Nat.le_refl _) (Nat.le_refl _) ⟨rfl, by rw [hE], by rw [hE], rfl⟩
        · have hE : (tkEnding G r (x 9) (x 6) (clk G s) (x 11) (x 10) (b01 (nI s = 1))) = (0, G) := by unfold tkEnding; rw [if_neg c, if_neg (fun q => hw ⟨q.1, mE1.mp q.2⟩)]
          refine j_iconst (v := 0) h d_Mod_takes_232 (by decide) ?_
          exact j_zret hX d_Mod_takes_233 rfl (by first | exact Or.inl rfl | exact Or.inr rfl | exact b01_z _ | assumption) (Nat.le_refl _) (Nat.le_refl _) ⟨rfl, by rw [hE], by rw [hE], rfl⟩
      · have hk0 : ¬ G 10 r = 0 := by
          rcases hw.2 with q | q
          · rw [q.1]; decide
          · rw [q.1]; decide
        have hE : (tkEnding G r (x 9) (x 6) (clk G s) (x 11) (x 10) (b01 (nI s = 1))) = (1, settle (up G 12 r (gr (G 12 r) (x 6))) r 0) := by unfold tkEnding; rw [if_neg hk0, if_pos ⟨hw.1, mE1.mpr hw.2⟩]
        refine j_iload h d_Mod_takes_218 rfl ?_
        refine j_if_ne (tgt := 234) h d_Mod_takes_220 (by decide) (fun c1 => ?_) (fun c1 => absurd c1 (by decide))
        refine j_aload_n h d_Mod_takes_234 rfl ?_
        refine j_getR h d_Mod_takes_235 fl_Mod_40 rfl (by assumption) (mP ms (a := 20) (by decide)) ?_
        refine j_iload_n h d_Mod_takes_238 rfl ?_
        refine j_aload_n h d_Mod_takes_239 rfl ?_
        refine j_getR h d_Mod_takes_240 fl_Mod_40 rfl (by assumption) (mP ms (a := 20) (by decide)) ?_
        refine j_iload_n h d_Mod_takes_243 rfl ?_
        refine m_iald2 (a := 20) (L := 64) (j := r) h ms d_Mod_takes_244 (by decide) rfl (by decide) rfl rfl (by omega) ?_
        refine j_aload_n h d_Mod_takes_245 rfl ?_
        refine j_bipush (v := 6) h d_Mod_takes_246 (by decide) ?_
        refine m_iald3e (a := 38) (L := 14) (j := 6) (v := x 6) h ms d_Mod_takes_248 (by decide) rfl (by decide) rfl rfl (by omega) (hrd 6 (by decide)) ?_
        refine j_callS h (c_Mod_greater _ _ _ _ _ _ _ _ _ _) d_Mod_takes_249 ml_Mod_150 ms_Mod_greater rfl rfl (Nat.le_of_ble_eq_true rfl) (hR_of hX (by decide) (by decide)) (hf_of hX (by decide) (by decide)) ?_
        rintro _ _ _ _ ⟨rfl, rfl, rfl, rfl⟩
        refine m_iast2 (a := 20) (L := 64) (j := r) h ms d_Mod_takes_252 (by decide) rfl (by decide) rfl rfl (by omega) ?_
        refine j_iload h d_Mod_takes_253 rfl ?_
        refine j_if_eq (tgt := 264) h d_Mod_takes_255 (by decide) (fun c2 => absurd c2 (by decide)) (fun c2 => ?_)
        refine j_aload_n h d_Mod_takes_258 rfl ?_
        refine j_iload_n h d_Mod_takes_259 rfl ?_
        refine j_iconst (v := 0) h d_Mod_takes_260 (by decide) ?_
        refine j_callV h (c_Mod_turns _ _ _ _ _ _ _ _ ms _ hr _) d_Mod_takes_261 ml_Mod_158 mv_Mod_turns (by assumption) ⟨rfl, rfl⟩ rfl rfl (Nat.le_of_ble_eq_true rfl) (hR_of hX (by decide) (by decide)) (hf_of hX (by decide) (by decide)) ?_
        rintro _ _ _ _ ⟨rfl, rfl, rfl, rfl⟩
        refine j_iconst (v := 1) h d_Mod_takes_264 (by decide) ?_
        exact j_zret hX d_Mod_takes_265 rfl (by first | exact Or.inl rfl | exact Or.inr rfl | exact b01_z _ | assumption) (Nat.le_refl _) (Nat.le_refl _) ⟨rfl, by rw [hE], by rw [hE], rfl⟩
    have h108 : J X K V (bk4 A B G D) P 0 0 108 [(0, .ref (K.ad 6 0)), (1, .int (nI s)), (2, .int (nI r)), (3, .ref (K.aad 38)), (4, .int (x 3)), (6, .int (b01 (G 11 r = x 9)))] [] := by
      refine j_iload h d_Mod_takes_108 rfl ?_
      refine j_iconst (v := 2) h d_Mod_takes_110 (by decide) ?_
      refine j_ic_ne (tgt := 123) h d_Mod_takes_111 (by decide) (fun c1 => ?_) (fun c1 => ?_)
      · refine j_iload h d_Mod_takes_123 rfl ?_
        refine j_iconst (v := 3) h d_Mod_takes_125 (by decide) ?_
        refine j_ic_ne (tgt := 266) h d_Mod_takes_126 (by decide) (fun c2 => ?_) (fun c2 => ?_)
        · refine j_iload h d_Mod_takes_266 rfl ?_
          refine j_iconst (v := 4) h d_Mod_takes_268 (by decide) ?_
          refine j_ic_ne (tgt := 289) h d_Mod_takes_269 (by decide) (fun c3 => ?_) (fun c3 => ?_)
          · refine j_iload h d_Mod_takes_289 rfl ?_
            refine j_if_eq (tgt := 309) h d_Mod_takes_291 (by decide) (fun c4 => ?_) (fun c4 => ?_)
            · refine j_iconst (v := 1) h d_Mod_takes_309 (by decide) ?_
              refine j_goto (tgt := 314) h d_Mod_takes_310 (by decide) ?_
              exact j_zret hX d_Mod_takes_314 rfl (by first | exact Or.inl rfl | exact Or.inr rfl | exact b01_z _ | assumption) (Nat.le_refl _) (Nat.le_refl _) ⟨rfl, by clear hX h hl h218; first | (simp_all [tkGiven, b01]; done) | grind [tkGiven, b01], by clear hX h hl h218; first | (simp_all [tkGiven]; done) | grind [tkGiven], rfl⟩
            · refine j_iload h d_Mod_takes_294 rfl ?_
              refine j_iconst (v := 1) h d_Mod_takes_296 (by decide) ?_
              refine j_ic_ne (tgt := 313) h d_Mod_takes_297 (by decide) (fun c5 => ?_) (fun c5 => ?_)
              · refine j_iconst (v := 0) h d_Mod_takes_313 (by decide) ?_
                exact j_zret hX d_Mod_takes_314 rfl (by first | exact Or.inl rfl | exact Or.inr rfl | exact b01_z _ | assumption) (Nat.le_refl _) (Nat.le_refl _) ⟨rfl, by clear hX h hl h218; first | (simp_all [tkGiven, b01]; done) | grind [tkGiven, b01], by clear hX h hl h218; first | (simp_all [tkGiven]; done) | grind [tkGiven], rfl⟩
              · refine j_aload_n h d_Mod_takes_300 rfl ?_
                refine j_getR h d_Mod_takes_301 fl_Mod_34 rfl (by assumption) (mP ms (a := 18) (by decide)) ?_
                refine j_iload_n h d_Mod_takes_304 rfl ?_
                refine m_iald2 (a := 18) (L := 64) (j := r) h ms d_Mod_takes_305 (by decide) rfl (by decide) rfl rfl (by omega) ?_
                refine j_if_ne (tgt := 313) h d_Mod_takes_306 (by decide) (fun c6 => ?_) (fun c6 => ?_)
                · refine j_iconst (v := 0) h d_Mod_takes_313 (by decide) ?_
                  exact j_zret hX d_Mod_takes_314 rfl (by first | exact Or.inl rfl | exact Or.inr rfl | exact b01_z _ | assumption) (Nat.le_refl _) (Nat.le_refl _) ⟨rfl, by clear hX h hl h218; first | (simp_all [tkGiven, b01]; done) | grind [tkGiven, b01], by clear hX h hl h218; first | (simp_all [tkGiven]; done) | grind [tkGiven], rfl⟩
                · refine j_iconst (v := 1) h d_Mod_takes_309 (by decide) ?_
                  refine j_goto (tgt := 314) h d_Mod_takes_310 (by decide) ?_
                  exact j_zret hX d_Mod_takes_314 rfl (by first | exact Or.inl rfl | exact Or.inr rfl | exact b01_z _ | assumption) (Nat.le_refl _) (Nat.le_refl _) ⟨rfl, by clear hX h hl h218; first | (simp_all [tkGiven, b01]; done) | grind [tkGiven, b01], by clear hX h hl h218; first | (simp_all [tkGiven]; done) | grind [tkGiven], rfl⟩
          · refine j_aload_n h d_Mod_takes_272 rfl ?_
            refine j_getR h d_Mod_takes_273 fl_Mod_34 rfl (by assumption) (mP ms (a := 18) (by decide)) ?_
            refine j_iload_n h d_Mod_takes_276 rfl ?_
            refine m_iald2 (a := 18) (L := 64) (j := r) h ms d_Mod_takes_277 (by decide) rfl (by decide) rfl rfl (by omega) ?_
            refine j_if_ne (tgt := 289) h d_Mod_takes_278 (by decide) (fun c7 => ?_) (fun c7 => ?_)
            · refine j_iload h d_Mod_takes_289 rfl ?_
              refine j_if_eq (tgt := 309) h d_Mod_takes_291 (by decide) (fun c8 => ?_) (fun c8 => ?_)
              · refine j_iconst (v := 1) h d_Mod_takes_309 (by decide) ?_
                refine j_goto (tgt := 314) h d_Mod_takes_310 (by decide) ?_
                exact j_zret hX d_Mod_takes_314 rfl (by first | exact Or.inl rfl | exact Or.inr rfl | exact b01_z _ | assumption) (Nat.le_refl _) (Nat.le_refl _) ⟨rfl, by clear hX h hl h218; first | (simp_all [tkGiven, b01]; done) | grind [tkGiven, b01], by clear hX h hl h218; first | (simp_all [tkGiven]; done) | grind [tkGiven], rfl⟩
              · refine j_iload h d_Mod_takes_294 rfl ?_
                refine j_iconst (v := 1) h d_Mod_takes_296 (by decide) ?_
                refine j_ic_ne (tgt := 313) h d_Mod_takes_297 (by decide) (fun c9 => ?_) (fun c9 => ?_)
                · refine j_iconst (v := 0) h d_Mod_takes_313 (by decide) ?_
                  exact j_zret hX d_Mod_takes_314 rfl (by first | exact Or.inl rfl | exact Or.inr rfl | exact b01_z _ | assumption) (Nat.le_refl _) (Nat.le_refl _) ⟨rfl, by clear hX h hl h218; first | (simp_all [tkGiven, b01]; done) | grind [tkGiven, b01], by clear hX h hl h218; first | (simp_all [tkGiven]; done) | grind [tkGiven], rfl⟩
                · refine j_aload_n h d_Mod_takes_300 rfl ?_
                  refine j_getR h d_Mod_takes_301 fl_Mod_34 rfl (by assumption) (mP ms (a := 18) (by decide)) ?_
                  refine j_iload_n h d_Mod_takes_304 rfl ?_
                  refine m_iald2 (a := 18) (L := 64) (j := r) h ms d_Mod_takes_305 (by decide) rfl (by decide) rfl rfl (by omega) ?_
                  refine j_if_ne (tgt := 313) h d_Mod_takes_306 (by decide) (fun c10 => ?_) (fun c10 => ?_)
                  · refine j_iconst (v := 0) h d_Mod_takes_313 (by decide) ?_
                    exact j_zret hX d_Mod_takes_314 rfl (by first | exact Or.inl rfl | exact Or.inr rfl | exact b01_z _ | assumption) (Nat.le_refl _) (Nat.le_refl _) ⟨rfl, by clear hX h hl h218; first | (simp_all [tkGiven, b01]; done) | grind [tkGiven, b01], by clear hX h hl h218; first | (simp_all [tkGiven]; done) | grind [tkGiven], rfl⟩
                  · refine j_iconst (v := 1) h d_Mod_takes_309 (by decide) ?_
                    refine j_goto (tgt := 314) h d_Mod_takes_310 (by decide) ?_
                    exact j_zret hX d_Mod_takes_314 rfl (by first | exact Or.inl rfl | exact Or.inr rfl | exact b01_z _ | assumption) (Nat.le_refl _) (Nat.le_refl _) ⟨rfl, by clear hX h hl h218; first | (simp_all [tkGiven, b01]; done) | grind [tkGiven, b01], by clear hX h hl h218; first | (simp_all [tkGiven]; done) | grind [tkGiven], rfl⟩
            · refine j_aload_n h d_Mod_takes_281 rfl ?_
              refine j_iload_n h d_Mod_takes_282 rfl ?_
              refine j_iconst (v := 1) h d_Mod_takes_283 (by decide) ?_
              refine j_callV h (c_Mod_turns _ _ _ _ _ _ _ _ ms _ hr _) d_Mod_takes_284 ml_Mod_158 mv_Mod_turns (by assumption) ⟨rfl, rfl⟩ rfl rfl (Nat.le_of_ble_eq_true rfl) (hR_of hX (by decide) (by decide)) (hf_of hX (by decide) (by decide)) ?_
              rintro _ _ _ _ ⟨rfl, rfl, rfl, rfl⟩
              refine j_iconst (v := 1) h d_Mod_takes_287 (by decide) ?_
              exact j_zret hX d_Mod_takes_288 rfl (by first | exact Or.inl rfl | exact Or.inr rfl | exact b01_z _ | assumption) (Nat.le_refl _) (Nat.le_refl _) ⟨rfl, by clear hX h hl h218; first | (simp_all [tkGiven, b01]; done) | grind [tkGiven, b01], by clear hX h hl h218; first | (simp_all [tkGiven]; done) | grind [tkGiven], rfl⟩
        · refine j_aload_n h d_Mod_takes_129 rfl ?_
          refine j_getR h d_Mod_takes_130 fl_Mod_34 rfl (by assumption) (mP ms (a := 18) (by decide)) ?_
          refine j_iload_n h d_Mod_takes_133 rfl ?_
          refine m_iald2 (a := 18) (L := 64) (j := r) h ms d_Mod_takes_134 (by decide) rfl (by decide) rfl rfl (by omega) ?_
          refine j_iconst (v := 2) h d_Mod_takes_135 (by decide) ?_
          refine j_ic_ne (tgt := 183) h d_Mod_takes_136 (by decide) (fun c11 => ?_) (fun c11 => ?_)
          · refine j_iconst (v := 0) h d_Mod_takes_183 (by decide) ?_
            refine j_istore h d_Mod_takes_184 (Nat.lt_of_lt_of_eq (m := 8) (by decide) hN.symm) ?_
            refine j_iload h d_Mod_takes_186 rfl ?_
            refine j_if_ne (tgt := 211) h d_Mod_takes_188 (by decide) (fun c12 => absurd c12 (by decide)) (fun c12 => ?_)
            refine j_aload_n h d_Mod_takes_191 rfl ?_
            refine j_getR h d_Mod_takes_192 fl_Mod_34 rfl (by assumption) (mP ms (a := 18) (by decide)) ?_
            refine j_iload_n h d_Mod_takes_195 rfl ?_
            refine m_iald2 (a := 18) (L := 64) (j := r) h ms d_Mod_takes_196 (by decide) rfl (by decide) rfl rfl (by omega) ?_
            refine j_iconst (v := 3) h d_Mod_takes_197 (by decide) ?_
            refine j_ic_ne (tgt := 215) h d_Mod_takes_198 (by decide) (fun c13 => ?_) (fun c13 => ?_)
            · refine j_iconst (v := 0) h d_Mod_takes_215 (by decide) ?_
              refine j_istore h d_Mod_takes_216 (Nat.lt_of_lt_of_eq (m := 8) (by decide) hN.symm) ?_
              refine j_lv (lv' := [(0, .ref (K.ad 6 0)), (1, .int (nI s)), (2, .int (nI r)), (3, .ref (K.aad 38)), (4, .int (x 3)), (6, .int (b01 (G 11 r = x 9))), (7, .int _)]) (lvs rfl (lvs rfl (lvs rfl (lvs rfl (lvs rfl (lvs rfl (lvs rfl lvs0))))))) ?_
              exact h218 _ (by assumption) (by clear hX h hl h218; first | (simp_all [mayEnd, b01_0, b01_1, b01]; done) | grind [mayEnd, b01_0, b01_1, b01])
            · refine j_iload h d_Mod_takes_201 rfl ?_
              refine j_if_eq (tgt := 215) h d_Mod_takes_203 (by decide) (fun c14 => ?_) (fun c14 => ?_)
              · refine j_iconst (v := 0) h d_Mod_takes_215 (by decide) ?_
                refine j_istore h d_Mod_takes_216 (Nat.lt_of_lt_of_eq (m := 8) (by decide) hN.symm) ?_
                refine j_lv (lv' := [(0, .ref (K.ad 6 0)), (1, .int (nI s)), (2, .int (nI r)), (3, .ref (K.aad 38)), (4, .int (x 3)), (6, .int (b01 (G 11 r = x 9))), (7, .int _)]) (lvs rfl (lvs rfl (lvs rfl (lvs rfl (lvs rfl (lvs rfl (lvs rfl lvs0))))))) ?_
                exact h218 _ (by assumption) (by clear hX h hl h218; first | (simp_all [mayEnd, b01_0, b01_1, b01]; done) | grind [mayEnd, b01_0, b01_1, b01])
              · refine j_iload_n h d_Mod_takes_206 rfl ?_
                refine j_iconst (v := 1) h d_Mod_takes_207 (by decide) ?_
                refine j_ic_ne (tgt := 215) h d_Mod_takes_208 (by decide) (fun c15 => ?_) (fun c15 => ?_)
                · refine j_iconst (v := 0) h d_Mod_takes_215 (by decide) ?_
                  refine j_istore h d_Mod_takes_216 (Nat.lt_of_lt_of_eq (m := 8) (by decide) hN.symm) ?_
                  refine j_lv (lv' := [(0, .ref (K.ad 6 0)), (1, .int (nI s)), (2, .int (nI r)), (3, .ref (K.aad 38)), (4, .int (x 3)), (6, .int (b01 (G 11 r = x 9))), (7, .int _)]) (lvs rfl (lvs rfl (lvs rfl (lvs rfl (lvs rfl (lvs rfl (lvs rfl lvs0))))))) ?_
                  exact h218 _ (by assumption) (by clear hX h hl h218; first | (simp_all [mayEnd, b01_0, b01_1, b01]; done) | grind [mayEnd, b01_0, b01_1, b01])
                · refine j_iconst (v := 1) h d_Mod_takes_211 (by decide) ?_
                  refine j_goto (tgt := 216) h d_Mod_takes_212 (by decide) ?_
                  refine j_istore h d_Mod_takes_216 (Nat.lt_of_lt_of_eq (m := 8) (by decide) hN.symm) ?_
                  refine j_lv (lv' := [(0, .ref (K.ad 6 0)), (1, .int (nI s)), (2, .int (nI r)), (3, .ref (K.aad 38)), (4, .int (x 3)), (6, .int (b01 (G 11 r = x 9))), (7, .int _)]) (lvs rfl (lvs rfl (lvs rfl (lvs rfl (lvs rfl (lvs rfl (lvs rfl lvs0))))))) ?_
                  exact h218 _ (by assumption) (by clear hX h hl h218; first | (simp_all [mayEnd, b01_0, b01_1, b01]; done) | grind [mayEnd, b01_0, b01_1, b01])
          · refine j_iload h d_Mod_takes_139 rfl ?_
            refine j_if_eq (tgt := 183) h d_Mod_takes_141 (by decide) (fun c16 => ?_) (fun c16 => ?_)
            · refine j_iconst (v := 0) h d_Mod_takes_183 (by decide) ?_
              refine j_istore h d_Mod_takes_184 (Nat.lt_of_lt_of_eq (m := 8) (by decide) hN.symm) ?_
              refine j_iload h d_Mod_takes_186 rfl ?_
              refine j_if_ne (tgt := 211) h d_Mod_takes_188 (by decide) (fun c17 => absurd c17 (by decide)) (fun c17 => ?_)
              refine j_aload_n h d_Mod_takes_191 rfl ?_
              refine j_getR h d_Mod_takes_192 fl_Mod_34 rfl (by assumption) (mP ms (a := 18) (by decide)) ?_
              refine j_iload_n h d_Mod_takes_195 rfl ?_
              refine m_iald2 (a := 18) (L := 64) (j := r) h ms d_Mod_takes_196 (by decide) rfl (by decide) rfl rfl (by omega) ?_
              refine j_iconst (v := 3) h d_Mod_takes_197 (by decide) ?_
              refine j_ic_ne (tgt := 215) h d_Mod_takes_198 (by decide) (fun c18 => ?_) (fun c18 => ?_)
              · refine j_iconst (v := 0) h d_Mod_takes_215 (by decide) ?_
                refine j_istore h d_Mod_takes_216 (Nat.lt_of_lt_of_eq (m := 8) (by decide) hN.symm) ?_
                refine j_lv (lv' := [(0, .ref (K.ad 6 0)), (1, .int (nI s)), (2, .int (nI r)), (3, .ref (K.aad 38)), (4, .int (x 3)), (6, .int (b01 (G 11 r = x 9))), (7, .int _)]) (lvs rfl (lvs rfl (lvs rfl (lvs rfl (lvs rfl (lvs rfl (lvs rfl lvs0))))))) ?_
                exact h218 _ (by assumption) (by clear hX h hl h218; first | (simp_all [mayEnd, b01_0, b01_1, b01]; done) | grind [mayEnd, b01_0, b01_1, b01])
              · refine j_iload h d_Mod_takes_201 rfl ?_
                refine j_if_eq (tgt := 215) h d_Mod_takes_203 (by decide) (fun c19 => ?_) (fun c19 => ?_)
                · refine j_iconst (v := 0) h d_Mod_takes_215 (by decide) ?_
                  refine j_istore h d_Mod_takes_216 (Nat.lt_of_lt_of_eq (m := 8) (by decide) hN.symm) ?_
                  refine j_lv (lv' := [(0, .ref (K.ad 6 0)), (1, .int (nI s)), (2, .int (nI r)), (3, .ref (K.aad 38)), (4, .int (x 3)), (6, .int (b01 (G 11 r = x 9))), (7, .int _)]) (lvs rfl (lvs rfl (lvs rfl (lvs rfl (lvs rfl (lvs rfl (lvs rfl lvs0))))))) ?_
                  exact h218 _ (by assumption) (by clear hX h hl h218; first | (simp_all [mayEnd, b01_0, b01_1, b01]; done) | grind [mayEnd, b01_0, b01_1, b01])
                · refine j_iload_n h d_Mod_takes_206 rfl ?_
                  refine j_iconst (v := 1) h d_Mod_takes_207 (by decide) ?_
                  refine j_ic_ne (tgt := 215) h d_Mod_takes_208 (by decide) (fun c20 => ?_) (fun c20 => ?_)
                  · refine j_iconst (v := 0) h d_Mod_takes_215 (by decide) ?_
                    refine j_istore h d_Mod_takes_216 (Nat.lt_of_lt_of_eq (m := 8) (by decide) hN.symm) ?_
                    refine j_lv (lv' := [(0, .ref (K.ad 6 0)), (1, .int (nI s)), (2, .int (nI r)), (3, .ref (K.aad 38)), (4, .int (x 3)), (6, .int (b01 (G 11 r = x 9))), (7, .int _)]) (lvs rfl (lvs rfl (lvs rfl (lvs rfl (lvs rfl (lvs rfl (lvs rfl lvs0))))))) ?_
                    exact h218 _ (by assumption) (by clear hX h hl h218; first | (simp_all [mayEnd, b01_0, b01_1, b01]; done) | grind [mayEnd, b01_0, b01_1, b01])
                  · refine j_iconst (v := 1) h d_Mod_takes_211 (by decide) ?_
                    refine j_goto (tgt := 216) h d_Mod_takes_212 (by decide) ?_
                    refine j_istore h d_Mod_takes_216 (Nat.lt_of_lt_of_eq (m := 8) (by decide) hN.symm) ?_
                    refine j_lv (lv' := [(0, .ref (K.ad 6 0)), (1, .int (nI s)), (2, .int (nI r)), (3, .ref (K.aad 38)), (4, .int (x 3)), (6, .int (b01 (G 11 r = x 9))), (7, .int _)]) (lvs rfl (lvs rfl (lvs rfl (lvs rfl (lvs rfl (lvs rfl (lvs rfl lvs0))))))) ?_
                    exact h218 _ (by assumption) (by clear hX h hl h218; first | (simp_all [mayEnd, b01_0, b01_1, b01]; done) | grind [mayEnd, b01_0, b01_1, b01])
            · refine j_aload_n h d_Mod_takes_144 rfl ?_
              refine j_getR h d_Mod_takes_145 fl_Mod_40 rfl (by assumption) (mP ms (a := 20) (by decide)) ?_
              refine j_iload_n h d_Mod_takes_148 rfl ?_
              refine m_iald2 (a := 20) (L := 64) (j := r) h ms d_Mod_takes_149 (by decide) rfl (by decide) rfl rfl (by omega) ?_
              refine j_aload_n h d_Mod_takes_150 rfl ?_
              refine j_iload_n h d_Mod_takes_151 rfl ?_
              refine j_callV h (c_Mod_clock _ _ _ _ _ _ _ _ ms _ hs) d_Mod_takes_152 ml_Mod_128 mv_Mod_clock (by assumption) ⟨rfl, rfl⟩ rfl rfl (Nat.le_of_ble_eq_true rfl) (hR_of hX (by decide) (by decide)) (hf_of hX (by decide) (by decide)) ?_
              rintro _ _ _ _ ⟨rfl, rfl, rfl, rfl⟩
              refine j_ic_le (tgt := 179) h d_Mod_takes_155 (by decide) (fun c21 => ?_) (fun c21 => ?_)
              · refine j_iconst (v := 1) h d_Mod_takes_179 (by decide) ?_
                refine j_goto (tgt := 184) h d_Mod_takes_180 (by decide) ?_
                refine j_istore h d_Mod_takes_184 (Nat.lt_of_lt_of_eq (m := 8) (by decide) hN.symm) ?_
                refine j_iload h d_Mod_takes_186 rfl ?_
                refine j_if_ne (tgt := 211) h d_Mod_takes_188 (by decide) (fun c22 => ?_) (fun c22 => absurd c22 (by decide))
                refine j_iconst (v := 1) h d_Mod_takes_211 (by decide) ?_
                refine j_goto (tgt := 216) h d_Mod_takes_212 (by decide) ?_
                refine j_istore h d_Mod_takes_216 (Nat.lt_of_lt_of_eq (m := 8) (by decide) hN.symm) ?_
                refine j_lv (lv' := [(0, .ref (K.ad 6 0)), (1, .int (nI s)), (2, .int (nI r)), (3, .ref (K.aad 38)), (4, .int (x 3)), (6, .int (b01 (G 11 r = x 9))), (7, .int _)]) (lvs rfl (lvs rfl (lvs rfl (lvs rfl (lvs rfl (lvs rfl (lvs rfl lvs0))))))) ?_
                exact h218 _ (by assumption) (by clear hX h hl h218; first | (simp_all [mayEnd, b01_0, b01_1, b01]; done) | grind [mayEnd, b01_0, b01_1, b01])
              · refine j_aload_n h d_Mod_takes_158 rfl ?_
                refine j_bipush (v := 11) h d_Mod_takes_159 (by decide) ?_
                refine m_iald3e (a := 38) (L := 14) (j := 11) (v := x 11) h ms d_Mod_takes_161 (by decide) rfl (by decide) rfl rfl (by omega) (hrd 11 (by decide)) ?_
                refine j_iconst (v := 1) h d_Mod_takes_162 (by decide) ?_
                refine j_ic_ne (tgt := 183) h d_Mod_takes_163 (by decide) (fun c23 => ?_) (fun c23 => ?_)
                · refine j_iconst (v := 0) h d_Mod_takes_183 (by decide) ?_
                  refine j_istore h d_Mod_takes_184 (Nat.lt_of_lt_of_eq (m := 8) (by decide) hN.symm) ?_
                  refine j_iload h d_Mod_takes_186 rfl ?_
                  refine j_if_ne (tgt := 211) h d_Mod_takes_188 (by decide) (fun c24 => absurd c24 (by decide)) (fun c24 => ?_)
                  refine j_aload_n h d_Mod_takes_191 rfl ?_
                  refine j_getR h d_Mod_takes_192 fl_Mod_34 rfl (by assumption) (mP ms (a := 18) (by decide)) ?_
                  refine j_iload_n h d_Mod_takes_195 rfl ?_
                  refine m_iald2 (a := 18) (L := 64) (j := r) h ms d_Mod_takes_196 (by decide) rfl (by decide) rfl rfl (by omega) ?_
                  refine j_iconst (v := 3) h d_Mod_takes_197 (by decide) ?_
                  refine j_ic_ne (tgt := 215) h d_Mod_takes_198 (by decide) (fun c25 => ?_) (fun c25 => ?_)
                  · refine j_iconst (v := 0) h d_Mod_takes_215 (by decide) ?_
                    refine j_istore h d_Mod_takes_216 (Nat.lt_of_lt_of_eq (m := 8) (by decide) hN.symm) ?_
                    refine j_lv (lv' := [(0, .ref (K.ad 6 0)), (1, .int (nI s)), (2, .int (nI r)), (3, .ref (K.aad 38)), (4, .int (x 3)), (6, .int (b01 (G 11 r = x 9))), (7, .int _)]) (lvs rfl (lvs rfl (lvs rfl (lvs rfl (lvs rfl (lvs rfl (lvs rfl lvs0))))))) ?_
                    exact h218 _ (by assumption) (by clear hX h hl h218; first | (simp_all [mayEnd, b01_0, b01_1, b01]; done) | grind [mayEnd, b01_0, b01_1, b01])
                  · refine j_iload h d_Mod_takes_201 rfl ?_
                    refine j_if_eq (tgt := 215) h d_Mod_takes_203 (by decide) (fun c26 => ?_) (fun c26 => ?_)
                    · refine j_iconst (v := 0) h d_Mod_takes_215 (by decide) ?_
                      refine j_istore h d_Mod_takes_216 (Nat.lt_of_lt_of_eq (m := 8) (by decide) hN.symm) ?_
                      refine j_lv (lv' := [(0, .ref (K.ad 6 0)), (1, .int (nI s)), (2, .int (nI r)), (3, .ref (K.aad 38)), (4, .int (x 3)), (6, .int (b01 (G 11 r = x 9))), (7, .int _)]) (lvs rfl (lvs rfl (lvs rfl (lvs rfl (lvs rfl (lvs rfl (lvs rfl lvs0))))))) ?_
                      exact h218 _ (by assumption) (by clear hX h hl h218; first | (simp_all [mayEnd, b01_0, b01_1, b01]; done) | grind [mayEnd, b01_0, b01_1, b01])
                    · refine j_iload_n h d_Mod_takes_206 rfl ?_
                      refine j_iconst (v := 1) h d_Mod_takes_207 (by decide) ?_
                      refine j_ic_ne (tgt := 215) h d_Mod_takes_208 (by decide) (fun c27 => ?_) (fun c27 => ?_)
                      · refine j_iconst (v := 0) h d_Mod_takes_215 (by decide) ?_
                        refine j_istore h d_Mod_takes_216 (Nat.lt_of_lt_of_eq (m := 8) (by decide) hN.symm) ?_
                        refine j_lv (lv' := [(0, .ref (K.ad 6 0)), (1, .int (nI s)), (2, .int (nI r)), (3, .ref (K.aad 38)), (4, .int (x 3)), (6, .int (b01 (G 11 r = x 9))), (7, .int _)]) (lvs rfl (lvs rfl (lvs rfl (lvs rfl (lvs rfl (lvs rfl (lvs rfl lvs0))))))) ?_
                        exact h218 _ (by assumption) (by clear hX h hl h218; first | (simp_all [mayEnd, b01_0, b01_1, b01]; done) | grind [mayEnd, b01_0, b01_1, b01])
                      · refine j_iconst (v := 1) h d_Mod_takes_211 (by decide) ?_
                        refine j_goto (tgt := 216) h d_Mod_takes_212 (by decide) ?_
                        refine j_istore h d_Mod_takes_216 (Nat.lt_of_lt_of_eq (m := 8) (by decide) hN.symm) ?_
                        refine j_lv (lv' := [(0, .ref (K.ad 6 0)), (1, .int (nI s)), (2, .int (nI r)), (3, .ref (K.aad 38)), (4, .int (x 3)), (6, .int (b01 (G 11 r = x 9))), (7, .int _)]) (lvs rfl (lvs rfl (lvs rfl (lvs rfl (lvs rfl (lvs rfl (lvs rfl lvs0))))))) ?_
                        exact h218 _ (by assumption) (by clear hX h hl h218; first | (simp_all [mayEnd, b01_0, b01_1, b01]; done) | grind [mayEnd, b01_0, b01_1, b01])
                · refine j_aload_n h d_Mod_takes_166 rfl ?_
                  refine j_bipush (v := 10) h d_Mod_takes_167 (by decide) ?_
                  refine m_iald3e (a := 38) (L := 14) (j := 10) (v := x 10) h ms d_Mod_takes_169 (by decide) rfl (by decide) rfl rfl (by omega) (hrd 10 (by decide)) ?_
                  refine j_aload_n h d_Mod_takes_170 rfl ?_
                  refine j_getR h d_Mod_takes_171 fl_Mod_43 rfl (by assumption) (mP ms (a := 21) (by decide)) ?_
                  refine j_iload_n h d_Mod_takes_174 rfl ?_
                  refine m_iald2 (a := 21) (L := 64) (j := r) h ms d_Mod_takes_175 (by decide) rfl (by decide) rfl rfl (by omega) ?_
                  refine j_ic_le (tgt := 183) h d_Mod_takes_176 (by decide) (fun c28 => ?_) (fun c28 => ?_)
                  · refine j_iconst (v := 0) h d_Mod_takes_183 (by decide) ?_
                    refine j_istore h d_Mod_takes_184 (Nat.lt_of_lt_of_eq (m := 8) (by decide) hN.symm) ?_
                    refine j_iload h d_Mod_takes_186 rfl ?_
                    refine j_if_ne (tgt := 211) h d_Mod_takes_188 (by decide) (fun c29 => absurd c29 (by decide)) (fun c29 => ?_)
                    refine j_aload_n h d_Mod_takes_191 rfl ?_
                    refine j_getR h d_Mod_takes_192 fl_Mod_34 rfl (by assumption) (mP ms (a := 18) (by decide)) ?_
                    refine j_iload_n h d_Mod_takes_195 rfl ?_
                    refine m_iald2 (a := 18) (L := 64) (j := r) h ms d_Mod_takes_196 (by decide) rfl (by decide) rfl rfl (by omega) ?_
                    refine j_iconst (v := 3) h d_Mod_takes_197 (by decide) ?_
                    refine j_ic_ne (tgt := 215) h d_Mod_takes_198 (by decide) (fun c30 => ?_) (fun c30 => ?_)
                    · refine j_iconst (v := 0) h d_Mod_takes_215 (by decide) ?_
                      refine j_istore h d_Mod_takes_216 (Nat.lt_of_lt_of_eq (m := 8) (by decide) hN.symm) ?_
                      refine j_lv (lv' := [(0, .ref (K.ad 6 0)), (1, .int (nI s)), (2, .int (nI r)), (3, .ref (K.aad 38)), (4, .int (x 3)), (6, .int (b01 (G 11 r = x 9))), (7, .int _)]) (lvs rfl (lvs rfl (lvs rfl (lvs rfl (lvs rfl (lvs rfl (lvs rfl lvs0))))))) ?_
                      exact h218 _ (by assumption) (by clear hX h hl h218; first | (simp_all [mayEnd, b01_0, b01_1, b01]; done) | grind [mayEnd, b01_0, b01_1, b01])
                    · refine j_iload h d_Mod_takes_201 rfl ?_
                      refine j_if_eq (tgt := 215) h d_Mod_takes_203 (by decide) (fun c31 => ?_) (fun c31 => ?_)
                      · refine j_iconst (v := 0) h d_Mod_takes_215 (by decide) ?_
                        refine j_istore h d_Mod_takes_216 (Nat.lt_of_lt_of_eq (m := 8) (by decide) hN.symm) ?_
                        refine j_lv (lv' := [(0, .ref (K.ad 6 0)), (1, .int (nI s)), (2, .int (nI r)), (3, .ref (K.aad 38)), (4, .int (x 3)), (6, .int (b01 (G 11 r = x 9))), (7, .int _)]) (lvs rfl (lvs rfl (lvs rfl (lvs rfl (lvs rfl (lvs rfl (lvs rfl lvs0))))))) ?_
                        exact h218 _ (by assumption) (by clear hX h hl h218; first | (simp_all [mayEnd, b01_0, b01_1, b01]; done) | grind [mayEnd, b01_0, b01_1, b01])
                      · refine j_iload_n h d_Mod_takes_206 rfl ?_
                        refine j_iconst (v := 1) h d_Mod_takes_207 (by decide) ?_
                        refine j_ic_ne (tgt := 215) h d_Mod_takes_208 (by decide) (fun c32 => ?_) (fun c32 => ?_)
                        · refine j_iconst (v := 0) h d_Mod_takes_215 (by decide) ?_
                          refine j_istore h d_Mod_takes_216 (Nat.lt_of_lt_of_eq (m := 8) (by decide) hN.symm) ?_
                          refine j_lv (lv' := [(0, .ref (K.ad 6 0)), (1, .int (nI s)), (2, .int (nI r)), (3, .ref (K.aad 38)), (4, .int (x 3)), (6, .int (b01 (G 11 r = x 9))), (7, .int _)]) (lvs rfl (lvs rfl (lvs rfl (lvs rfl (lvs rfl (lvs rfl (lvs rfl lvs0))))))) ?_
                          exact h218 _ (by assumption) (by clear hX h hl h218; first | (simp_all [mayEnd, b01_0, b01_1, b01]; done) | grind [mayEnd, b01_0, b01_1, b01])
                        · refine j_iconst (v := 1) h d_Mod_takes_211 (by decide) ?_
                          refine j_goto (tgt := 216) h d_Mod_takes_212 (by decide) ?_
                          refine j_istore h d_Mod_takes_216 (Nat.lt_of_lt_of_eq (m := 8) (by decide) hN.symm) ?_
                          refine j_lv (lv' := [(0, .ref (K.ad 6 0)), (1, .int (nI s)), (2, .int (nI r)), (3, .ref (K.aad 38)), (4, .int (x 3)), (6, .int (b01 (G 11 r = x 9))), (7, .int _)]) (lvs rfl (lvs rfl (lvs rfl (lvs rfl (lvs rfl (lvs rfl (lvs rfl lvs0))))))) ?_
                          exact h218 _ (by assumption) (by clear hX h hl h218; first | (simp_all [mayEnd, b01_0, b01_1, b01]; done) | grind [mayEnd, b01_0, b01_1, b01])
                  · refine j_iconst (v := 1) h d_Mod_takes_179 (by decide) ?_
                    refine j_goto (tgt := 184) h d_Mod_takes_180 (by decide) ?_
                    refine j_istore h d_Mod_takes_184 (Nat.lt_of_lt_of_eq (m := 8) (by decide) hN.symm) ?_
                    refine j_iload h d_Mod_takes_186 rfl ?_
                    refine j_if_ne (tgt := 211) h d_Mod_takes_188 (by decide) (fun c33 => ?_) (fun c33 => absurd c33 (by decide))
                    refine j_iconst (v := 1) h d_Mod_takes_211 (by decide) ?_
                    refine j_goto (tgt := 216) h d_Mod_takes_212 (by decide) ?_
                    refine j_istore h d_Mod_takes_216 (Nat.lt_of_lt_of_eq (m := 8) (by decide) hN.symm) ?_
                    refine j_lv (lv' := [(0, .ref (K.ad 6 0)), (1, .int (nI s)), (2, .int (nI r)), (3, .ref (K.aad 38)), (4, .int (x 3)), (6, .int (b01 (G 11 r = x 9))), (7, .int _)]) (lvs rfl (lvs rfl (lvs rfl (lvs rfl (lvs rfl (lvs rfl (lvs rfl lvs0))))))) ?_
                    exact h218 _ (by assumption) (by clear hX h hl h218; first | (simp_all [mayEnd, b01_0, b01_1, b01]; done) | grind [mayEnd, b01_0, b01_1, b01])
      · refine j_aload_n h d_Mod_takes_114 rfl ?_
        refine j_iload_n h d_Mod_takes_115 rfl ?_
        refine j_aload_n h d_Mod_takes_116 rfl ?_
        refine j_iload h d_Mod_takes_117 rfl ?_
        refine j_callV h (c_Mod_takesBound _ _ _ _ _ _ _ _ ms _ hr _ hrd) d_Mod_takes_119 ml_Mod_161 mv_Mod_takesBound (by assumption) ⟨rfl, rfl⟩ rfl rfl (Nat.le_of_ble_eq_true rfl) (hR_of hX (by decide) (by decide)) (hf_of hX (by decide) (by decide)) ?_
        rintro _ _ _ _ ⟨rfl, rfl, rfl, rfl⟩
        exact j_zret hX d_Mod_takes_122 rfl (tkB_z _ _ _ _ _) (Nat.le_refl _) (Nat.le_refl _) ⟨rfl, by rw [if_pos (by assumption)], by rw [if_pos (by assumption)], rfl⟩
    refine j_aload_n h d_Mod_takes_88 rfl ?_
    refine j_getR h d_Mod_takes_89 fl_Mod_37 rfl (by assumption) (mP ms (a := 19) (by decide)) ?_
    refine j_iload_n h d_Mod_takes_92 rfl ?_
    refine m_iald2 (a := 19) (L := 64) (j := r) h ms d_Mod_takes_93 (by decide) rfl (by decide) rfl rfl (by omega) ?_
    refine j_aload_n h d_Mod_takes_94 rfl ?_
    refine j_bipush (v := 9) h d_Mod_takes_95 (by decide) ?_
    refine m_iald3e (a := 38) (L := 14) (j := 9) (v := x 9) h ms d_Mod_takes_97 (by decide) rfl (by decide) rfl rfl (by omega) (hrd 9 (by decide)) ?_
    refine j_ic_ne (tgt := 105) h d_Mod_takes_98 (by decide) (fun c1 => ?_) (fun c1 => ?_)
    · refine j_iconst (v := 0) h d_Mod_takes_105 (by decide) ?_
      refine j_int (v' := b01 (G 11 r = x 9)) (by clear hX h hl h218 h108; simp_all [b01]) ?_
      refine j_istore h d_Mod_takes_106 (Nat.lt_of_lt_of_eq (m := 8) (by decide) hN.symm) ?_
      refine j_lv (lv' := [(0, .ref (K.ad 6 0)), (1, .int (nI s)), (2, .int (nI r)), (3, .ref (K.aad 38)), (4, .int (x 3)), (6, .int (b01 (G 11 r = x 9)))]) (lvs rfl (lvs rfl (lvs rfl (lvs rfl (lvs rfl (lvs rfl lvs0)))))) ?_
      exact h108
    · refine j_iconst (v := 1) h d_Mod_takes_101 (by decide) ?_
      refine j_goto (tgt := 106) h d_Mod_takes_102 (by decide) ?_
      refine j_int (v' := b01 (G 11 r = x 9)) (by clear hX h hl h218 h108; simp_all [b01]) ?_
      refine j_istore h d_Mod_takes_106 (Nat.lt_of_lt_of_eq (m := 8) (by decide) hN.symm) ?_
      refine j_lv (lv' := [(0, .ref (K.ad 6 0)), (1, .int (nI s)), (2, .int (nI r)), (3, .ref (K.aad 38)), (4, .int (x 3)), (6, .int (b01 (G 11 r = x 9)))]) (lvs rfl (lvs rfl (lvs rfl (lvs rfl (lvs rfl (lvs rfl lvs0)))))) ?_
      exact h108
  refine j_aload_n h d_Mod_takes_0 rfl ?_
  refine j_iconst (v := 3) h d_Mod_takes_1 (by decide) ?_
  refine m_iald3e (a := 38) (L := 14) (j := 3) (v := x 3) h ms d_Mod_takes_2 (by decide) rfl (by decide) rfl rfl (by omega) (hrd 3 (by decide)) ?_
  refine j_istore h d_Mod_takes_3 (Nat.lt_of_lt_of_eq (m := 8) (by decide) hN.symm) ?_
  refine j_aload_n h d_Mod_takes_5 rfl ?_
  refine j_bipush (v := 13) h d_Mod_takes_6 (by decide) ?_
  refine m_iald3e (a := 38) (L := 14) (j := 13) (v := x 13) h ms d_Mod_takes_8 (by decide) rfl (by decide) rfl rfl (by omega) (hrd 13 (by decide)) ?_
  refine j_aload_n h d_Mod_takes_9 rfl ?_
  refine j_getR h d_Mod_takes_10 fl_Mod_19 rfl (by assumption) (mP ms (a := 13) (by decide)) ?_
  refine j_iload_n h d_Mod_takes_13 rfl ?_
  refine m_iald2 (a := 13) (L := 2) (j := s) h ms d_Mod_takes_14 (by decide) rfl (by decide) rfl rfl (by omega) ?_
  refine j_ic_lt (tgt := 32) h d_Mod_takes_15 (by decide) (fun c1 => ?_) (fun c1 => ?_)
  · refine j_iconst (v := 0) h d_Mod_takes_32 (by decide) ?_
    refine j_istore h d_Mod_takes_33 (Nat.lt_of_lt_of_eq (m := 8) (by decide) hN.symm) ?_
    refine j_iload h d_Mod_takes_35 rfl ?_
    refine j_if_ne (tgt := 68) h d_Mod_takes_37 (by decide) (fun c2 => absurd c2 (by decide)) (fun c2 => ?_)
    refine j_aload_n h d_Mod_takes_40 rfl ?_
    refine j_getR h d_Mod_takes_41 fl_Mod_34 rfl (by assumption) (mP ms (a := 18) (by decide)) ?_
    refine j_iload_n h d_Mod_takes_44 rfl ?_
    refine m_iald2 (a := 18) (L := 64) (j := r) h ms d_Mod_takes_45 (by decide) rfl (by decide) rfl rfl (by omega) ?_
    refine j_iconst (v := 4) h d_Mod_takes_46 (by decide) ?_
    refine j_ic_ne (tgt := 88) h d_Mod_takes_47 (by decide) (fun c3 => ?_) (fun c3 => ?_)
    · refine j_lv (lv' := [(0, .ref (K.ad 6 0)), (1, .int (nI s)), (2, .int (nI r)), (3, .ref (K.aad 38)), (4, .int (x 3))]) (lvs rfl (lvs rfl (lvs rfl (lvs rfl (lvs rfl lvs0))))) ?_
      exact h88 _ (by clear hX h hl h88; unfold gvWay; first | (simp_all; done) | grind)
    · refine j_aload_n h d_Mod_takes_50 rfl ?_
      refine j_bipush (v := 12) h d_Mod_takes_51 (by decide) ?_
      refine m_iald3e (a := 38) (L := 14) (j := 12) (v := x 12) h ms d_Mod_takes_53 (by decide) rfl (by decide) rfl rfl (by omega) (hrd 12 (by decide)) ?_
      refine j_aload_n h d_Mod_takes_54 rfl ?_
      refine j_getR h d_Mod_takes_55 fl_Mod_50 rfl (by assumption) (mP ms (a := 23) (by decide)) ?_
      refine j_iload_n h d_Mod_takes_58 rfl ?_
      refine m_iald2 (a := 23) (L := 64) (j := r) h ms d_Mod_takes_59 (by decide) rfl (by decide) rfl rfl (by omega) ?_
      refine j_ic_ne (tgt := 88) h d_Mod_takes_60 (by decide) (fun c4 => ?_) (fun c4 => ?_)
      · refine j_lv (lv' := [(0, .ref (K.ad 6 0)), (1, .int (nI s)), (2, .int (nI r)), (3, .ref (K.aad 38)), (4, .int (x 3))]) (lvs rfl (lvs rfl (lvs rfl (lvs rfl (lvs rfl lvs0))))) ?_
        exact h88 _ (by clear hX h hl h88; unfold gvWay; first | (simp_all; done) | grind)
      · refine j_iload h d_Mod_takes_63 rfl ?_
        refine j_if_eq (tgt := 88) h d_Mod_takes_65 (by decide) (fun c5 => ?_) (fun c5 => ?_)
        · refine j_lv (lv' := [(0, .ref (K.ad 6 0)), (1, .int (nI s)), (2, .int (nI r)), (3, .ref (K.aad 38)), (4, .int (x 3))]) (lvs rfl (lvs rfl (lvs rfl (lvs rfl (lvs rfl lvs0))))) ?_
          exact h88 _ (by clear hX h hl h88; unfold gvWay; first | (simp_all; done) | grind)
        · refine j_aload_n h d_Mod_takes_68 rfl ?_
          refine j_iload_n h d_Mod_takes_69 rfl ?_
          refine j_iload h d_Mod_takes_70 rfl ?_
          refine j_if_eq (tgt := 84) h d_Mod_takes_72 (by decide) (fun c6 => ?_) (fun c6 => absurd c6 (by decide))
          refine j_iconst (v := 0) h d_Mod_takes_84 (by decide) ?_
          refine j_callV h (c_Mod_turns _ _ _ _ _ _ _ _ ms _ hr _) d_Mod_takes_85 ml_Mod_158 mv_Mod_turns (by assumption) ⟨rfl, rfl⟩ rfl rfl (Nat.le_of_ble_eq_true rfl) (hR_of hX (by decide) (by decide)) (hf_of hX (by decide) (by decide)) ?_
          rintro _ _ _ _ ⟨rfl, rfl, rfl, rfl⟩
          refine j_lv (lv' := [(0, .ref (K.ad 6 0)), (1, .int (nI s)), (2, .int (nI r)), (3, .ref (K.aad 38)), (4, .int (x 3))]) (lvs rfl (lvs rfl (lvs rfl (lvs rfl (lvs rfl lvs0))))) ?_
          exact h88 _ (by clear hX h hl h88; unfold gvWay; first | (simp_all; done) | grind)
  · refine j_aload_n h d_Mod_takes_18 rfl ?_
    refine j_getR h d_Mod_takes_19 fl_Mod_7 rfl (by assumption) (mP ms (a := 10) (by decide)) ?_
    refine j_iload_n h d_Mod_takes_22 rfl ?_
    refine m_iald2 (a := 10) (L := 2) (j := s) h ms d_Mod_takes_23 (by decide) rfl (by decide) rfl rfl (by omega) ?_
    refine j_iconst (v := 1) h d_Mod_takes_24 (by decide) ?_
    refine j_ic_ne (tgt := 32) h d_Mod_takes_25 (by decide) (fun c7 => ?_) (fun c7 => ?_)
    · refine j_iconst (v := 0) h d_Mod_takes_32 (by decide) ?_
      refine j_istore h d_Mod_takes_33 (Nat.lt_of_lt_of_eq (m := 8) (by decide) hN.symm) ?_
      refine j_iload h d_Mod_takes_35 rfl ?_
      refine j_if_ne (tgt := 68) h d_Mod_takes_37 (by decide) (fun c8 => absurd c8 (by decide)) (fun c8 => ?_)
      refine j_aload_n h d_Mod_takes_40 rfl ?_
      refine j_getR h d_Mod_takes_41 fl_Mod_34 rfl (by assumption) (mP ms (a := 18) (by decide)) ?_
      refine j_iload_n h d_Mod_takes_44 rfl ?_
      refine m_iald2 (a := 18) (L := 64) (j := r) h ms d_Mod_takes_45 (by decide) rfl (by decide) rfl rfl (by omega) ?_
      refine j_iconst (v := 4) h d_Mod_takes_46 (by decide) ?_
      refine j_ic_ne (tgt := 88) h d_Mod_takes_47 (by decide) (fun c9 => ?_) (fun c9 => ?_)
      · refine j_lv (lv' := [(0, .ref (K.ad 6 0)), (1, .int (nI s)), (2, .int (nI r)), (3, .ref (K.aad 38)), (4, .int (x 3))]) (lvs rfl (lvs rfl (lvs rfl (lvs rfl (lvs rfl lvs0))))) ?_
        exact h88 _ (by clear hX h hl h88; unfold gvWay; first | (simp_all; done) | grind)
      · refine j_aload_n h d_Mod_takes_50 rfl ?_
        refine j_bipush (v := 12) h d_Mod_takes_51 (by decide) ?_
        refine m_iald3e (a := 38) (L := 14) (j := 12) (v := x 12) h ms d_Mod_takes_53 (by decide) rfl (by decide) rfl rfl (by omega) (hrd 12 (by decide)) ?_
        refine j_aload_n h d_Mod_takes_54 rfl ?_
        refine j_getR h d_Mod_takes_55 fl_Mod_50 rfl (by assumption) (mP ms (a := 23) (by decide)) ?_
        refine j_iload_n h d_Mod_takes_58 rfl ?_
        refine m_iald2 (a := 23) (L := 64) (j := r) h ms d_Mod_takes_59 (by decide) rfl (by decide) rfl rfl (by omega) ?_
        refine j_ic_ne (tgt := 88) h d_Mod_takes_60 (by decide) (fun c10 => ?_) (fun c10 => ?_)
        · refine j_lv (lv' := [(0, .ref (K.ad 6 0)), (1, .int (nI s)), (2, .int (nI r)), (3, .ref (K.aad 38)), (4, .int (x 3))]) (lvs rfl (lvs rfl (lvs rfl (lvs rfl (lvs rfl lvs0))))) ?_
          exact h88 _ (by clear hX h hl h88; unfold gvWay; first | (simp_all; done) | grind)
        · refine j_iload h d_Mod_takes_63 rfl ?_
          refine j_if_eq (tgt := 88) h d_Mod_takes_65 (by decide) (fun c11 => ?_) (fun c11 => ?_)
          · refine j_lv (lv' := [(0, .ref (K.ad 6 0)), (1, .int (nI s)), (2, .int (nI r)), (3, .ref (K.aad 38)), (4, .int (x 3))]) (lvs rfl (lvs rfl (lvs rfl (lvs rfl (lvs rfl lvs0))))) ?_
            exact h88 _ (by clear hX h hl h88; unfold gvWay; first | (simp_all; done) | grind)
          · refine j_aload_n h d_Mod_takes_68 rfl ?_
            refine j_iload_n h d_Mod_takes_69 rfl ?_
            refine j_iload h d_Mod_takes_70 rfl ?_
            refine j_if_eq (tgt := 84) h d_Mod_takes_72 (by decide) (fun c12 => ?_) (fun c12 => absurd c12 (by decide))
            refine j_iconst (v := 0) h d_Mod_takes_84 (by decide) ?_
            refine j_callV h (c_Mod_turns _ _ _ _ _ _ _ _ ms _ hr _) d_Mod_takes_85 ml_Mod_158 mv_Mod_turns (by assumption) ⟨rfl, rfl⟩ rfl rfl (Nat.le_of_ble_eq_true rfl) (hR_of hX (by decide) (by decide)) (hf_of hX (by decide) (by decide)) ?_
            rintro _ _ _ _ ⟨rfl, rfl, rfl, rfl⟩
            refine j_lv (lv' := [(0, .ref (K.ad 6 0)), (1, .int (nI s)), (2, .int (nI r)), (3, .ref (K.aad 38)), (4, .int (x 3))]) (lvs rfl (lvs rfl (lvs rfl (lvs rfl (lvs rfl lvs0))))) ?_
            exact h88 _ (by clear hX h hl h88; unfold gvWay; first | (simp_all; done) | grind)
    · refine j_iconst (v := 1) h d_Mod_takes_28 (by decide) ?_
      refine j_goto (tgt := 33) h d_Mod_takes_29 (by decide) ?_
      refine j_istore h d_Mod_takes_33 (Nat.lt_of_lt_of_eq (m := 8) (by decide) hN.symm) ?_
      refine j_iload h d_Mod_takes_35 rfl ?_
      refine j_if_ne (tgt := 68) h d_Mod_takes_37 (by decide) (fun c13 => ?_) (fun c13 => absurd c13 (by decide))
      refine j_aload_n h d_Mod_takes_68 rfl ?_
      refine j_iload_n h d_Mod_takes_69 rfl ?_
      refine j_iload h d_Mod_takes_70 rfl ?_
      refine j_if_eq (tgt := 84) h d_Mod_takes_72 (by decide) (fun c14 => absurd c14 (by decide)) (fun c14 => ?_)
      refine j_iload h d_Mod_takes_75 rfl ?_
      refine j_if_ne (tgt := 84) h d_Mod_takes_77 (by decide) (fun c15 => ?_) (fun c15 => ?_)
      · refine j_iconst (v := 0) h d_Mod_takes_84 (by decide) ?_
        refine j_callV h (c_Mod_turns _ _ _ _ _ _ _ _ ms _ hr _) d_Mod_takes_85 ml_Mod_158 mv_Mod_turns (by assumption) ⟨rfl, rfl⟩ rfl rfl (Nat.le_of_ble_eq_true rfl) (hR_of hX (by decide) (by decide)) (hf_of hX (by decide) (by decide)) ?_
        rintro _ _ _ _ ⟨rfl, rfl, rfl, rfl⟩
        refine j_lv (lv' := [(0, .ref (K.ad 6 0)), (1, .int (nI s)), (2, .int (nI r)), (3, .ref (K.aad 38)), (4, .int (x 3))]) (lvs rfl (lvs rfl (lvs rfl (lvs rfl (lvs rfl lvs0))))) ?_
        exact h88 _ (by clear hX h hl h88; unfold gvWay; first | (simp_all; done) | grind)
      · refine j_iconst (v := 1) h d_Mod_takes_80 (by decide) ?_
        refine j_goto (tgt := 85) h d_Mod_takes_81 (by decide) ?_
        refine j_callV h (c_Mod_turns _ _ _ _ _ _ _ _ ms _ hr _) d_Mod_takes_85 ml_Mod_158 mv_Mod_turns (by assumption) ⟨rfl, rfl⟩ rfl rfl (Nat.le_of_ble_eq_true rfl) (hR_of hX (by decide) (by decide)) (hf_of hX (by decide) (by decide)) ?_
        rintro _ _ _ _ ⟨rfl, rfl, rfl, rfl⟩
        refine j_lv (lv' := [(0, .ref (K.ad 6 0)), (1, .int (nI s)), (2, .int (nI r)), (3, .ref (K.aad 38)), (4, .int (x 3))]) (lvs rfl (lvs rfl (lvs rfl (lvs rfl (lvs rfl lvs0))))) ?_
        exact h88 _ (by clear hX h hl h88; unfold gvWay; first | (simp_all; done) | grind)
