/-! the constructor of the model -/
theorem cl_lo {x a b : Int32} (h : a ≤ b) (c : ¬ a ≤ x) : a = ls_ (gr x a) b := by
  rw [Int32.le_iff_toInt_le] at h c
  have e : gr x a = a := if_pos (by rw [Int32.lt_iff_toInt_lt]; omega)
  rw [e]
  exact (if_neg (by rw [Int32.lt_iff_toInt_lt]; omega)).symm
theorem cl_hi {x a b : Int32} (c : a ≤ x) (d : ¬ x ≤ b) : b = ls_ (gr x a) b := by
  rw [Int32.le_iff_toInt_le] at c d
  have e : gr x a = x := if_neg (by rw [Int32.lt_iff_toInt_lt]; omega)
  rw [e]
  exact (if_pos (by rw [Int32.lt_iff_toInt_lt]; omega)).symm
theorem cl_in {x a b : Int32} (c : a ≤ x) (d : x ≤ b) : x = ls_ (gr x a) b := by
  rw [Int32.le_iff_toInt_le] at c d
  have e : gr x a = x := if_neg (by rw [Int32.lt_iff_toInt_lt]; omega)
  rw [e]
  exact (if_neg (by rw [Int32.lt_iff_toInt_lt]; omega)).symm
def modP (K : Kx) (P : MP) : Nat → MP
  | 0 => P
  | j + 1 => up (modP K P j) (20 + j) 0 (some (K.aad (10 + j)))
theorem modP_c (K : Kx) (P : MP) {col i : Nat} (h : col < 20) : ∀ j, modP K P j col i = P col i
  | 0 => rfl
  | j + 1 => by
    show up (modP K P j) (20 + j) 0 _ col i = _
    rw [up_c _ _ (by omega)]
    exact modP_c K P h j
theorem modP_h (K : Kx) (P : MP) {col i : Nat} : ∀ j, 20 + j ≤ col → modP K P j col i = P col i
  | 0, _ => rfl
  | j + 1, h => by
    show up (modP K P j) (20 + j) 0 _ col i = _
    rw [up_c _ _ (by omega)]
    exact modP_h K P j (by omega)
theorem modP_lt (K : Kx) (P : MP) {i : Nat} : ∀ j, i < j → modP K P j (20 + i) 0 = some (K.aad (10 + i))
  | 0, h => absurd h (by omega)
  | j + 1, h => by
    show up (modP K P j) (20 + j) 0 _ (20 + i) 0 = _
    by_cases q : i = j
    · subst q; rw [up_s]
    · rw [up_c _ _ (by omega)]; exact modP_lt K P j (by omega)
def modC (C : MI) (n : Nat) (ld sk : Int32) : MI := cliA (srvA (srvA (up (up (up C 42 0 (nI n)) 43 0 ld) 44 0 sk) 0 n) 1 n) 16
theorem kf_mod {K : Kx} {n : Nat} (kf : KF K n) : K.pv 6 0 ∧ K.ad 6 0 = K.base + 627 + 2 * n := by
  rw [kf.2.1, kf.2.2.2.2.1]
  exact ⟨rfl, rfl⟩
theorem kf_ma {K : Kx} {n a : Nat} (kf : KF K n) (h : 10 ≤ a ∧ a < 39) : K.aad a = K.base + 618 + 2 * n + a ∧ K.pa a ∧ K.alen a = mlen a := by
  rw [kf.2.2.1, kf.2.2.2.1, kf.2.2.2.2.2]
  refine ⟨?_, Or.inr (Or.inl h), ?_⟩
  · unfold kaad
    rw [if_neg (by omega), if_neg (by omega), if_neg (by omega), if_neg (by omega), if_neg (by omega), if_neg (by omega), if_neg (by omega)]
  · unfold klen
    rw [if_neg (by omega), if_neg (by omega), if_neg (by omega), if_neg (by omega), if_neg (by omega)]
theorem ms_made {K : Kx} {n z : Nat} {P : MP} (kf : KF K n) (hz : K.base + 657 + 2 * n ≤ z) : MSt K (Vz K z) (modP K P 29) := by
  refine ⟨vz_o (kf_mod kf).1 (by have := (kf_mod kf).2; omega), fun a ha => ⟨vz_a (kf_ma kf ha).2.1 (by have := (kf_ma kf ha).1; omega), ?_, (kf_ma kf ha).2.2⟩⟩
  have := modP_lt K P (i := a - 10) 29 (by omega)
  rw [show 20 + (a - 10) = a + 10 by omega, show 10 + (a - 10) = a by omega] at this
  exact this
theorem d_Mod_init_0 : decode b_Mod_init 0 = .ok (.aload_n 0, 1) := by decide +kernel
theorem d_Mod_init_1 : decode b_Mod_init 1 = .ok (.invokespecial 1, 3) := by decide +kernel
theorem d_Mod_init_4 : decode b_Mod_init 4 = .ok (.aload_n 0, 1) := by decide +kernel
theorem d_Mod_init_5 : decode b_Mod_init 5 = .ok (.iconst 2, 1) := by decide +kernel
theorem d_Mod_init_6 : decode b_Mod_init 6 = .ok (.newarray .int, 2) := by decide +kernel
theorem d_Mod_init_8 : decode b_Mod_init 8 = .ok (.putfield 7, 3) := by decide +kernel
theorem d_Mod_init_11 : decode b_Mod_init 11 = .ok (.aload_n 0, 1) := by decide +kernel
theorem d_Mod_init_12 : decode b_Mod_init 12 = .ok (.iconst 2, 1) := by decide +kernel
theorem d_Mod_init_13 : decode b_Mod_init 13 = .ok (.newarray .int, 2) := by decide +kernel
theorem d_Mod_init_15 : decode b_Mod_init 15 = .ok (.putfield 13, 3) := by decide +kernel
theorem d_Mod_init_18 : decode b_Mod_init 18 = .ok (.aload_n 0, 1) := by decide +kernel
theorem d_Mod_init_19 : decode b_Mod_init 19 = .ok (.iconst 2, 1) := by decide +kernel
theorem d_Mod_init_20 : decode b_Mod_init 20 = .ok (.newarray .int, 2) := by decide +kernel
theorem d_Mod_init_22 : decode b_Mod_init 22 = .ok (.putfield 16, 3) := by decide +kernel
theorem d_Mod_init_25 : decode b_Mod_init 25 = .ok (.aload_n 0, 1) := by decide +kernel
theorem d_Mod_init_26 : decode b_Mod_init 26 = .ok (.iconst 2, 1) := by decide +kernel
theorem d_Mod_init_27 : decode b_Mod_init 27 = .ok (.newarray .int, 2) := by decide +kernel
theorem d_Mod_init_29 : decode b_Mod_init 29 = .ok (.putfield 19, 3) := by decide +kernel
theorem d_Mod_init_32 : decode b_Mod_init 32 = .ok (.aload_n 0, 1) := by decide +kernel
theorem d_Mod_init_33 : decode b_Mod_init 33 = .ok (.iconst 2, 1) := by decide +kernel
theorem d_Mod_init_34 : decode b_Mod_init 34 = .ok (.newarray .int, 2) := by decide +kernel
theorem d_Mod_init_36 : decode b_Mod_init 36 = .ok (.putfield 22, 3) := by decide +kernel
theorem d_Mod_init_39 : decode b_Mod_init 39 = .ok (.aload_n 0, 1) := by decide +kernel
theorem d_Mod_init_40 : decode b_Mod_init 40 = .ok (.iconst 2, 1) := by decide +kernel
theorem d_Mod_init_41 : decode b_Mod_init 41 = .ok (.newarray .int, 2) := by decide +kernel
theorem d_Mod_init_43 : decode b_Mod_init 43 = .ok (.putfield 25, 3) := by decide +kernel
theorem d_Mod_init_46 : decode b_Mod_init 46 = .ok (.aload_n 0, 1) := by decide +kernel
theorem d_Mod_init_47 : decode b_Mod_init 47 = .ok (.iconst 2, 1) := by decide +kernel
theorem d_Mod_init_48 : decode b_Mod_init 48 = .ok (.newarray .int, 2) := by decide +kernel
theorem d_Mod_init_50 : decode b_Mod_init 50 = .ok (.putfield 28, 3) := by decide +kernel
theorem d_Mod_init_53 : decode b_Mod_init 53 = .ok (.aload_n 0, 1) := by decide +kernel
theorem d_Mod_init_54 : decode b_Mod_init 54 = .ok (.iconst 2, 1) := by decide +kernel
theorem d_Mod_init_55 : decode b_Mod_init 55 = .ok (.newarray .int, 2) := by decide +kernel
theorem d_Mod_init_57 : decode b_Mod_init 57 = .ok (.putfield 31, 3) := by decide +kernel
theorem d_Mod_init_60 : decode b_Mod_init 60 = .ok (.aload_n 0, 1) := by decide +kernel
theorem d_Mod_init_61 : decode b_Mod_init 61 = .ok (.bipush 64, 2) := by decide +kernel
theorem d_Mod_init_63 : decode b_Mod_init 63 = .ok (.newarray .int, 2) := by decide +kernel
theorem d_Mod_init_65 : decode b_Mod_init 65 = .ok (.putfield 34, 3) := by decide +kernel
theorem d_Mod_init_68 : decode b_Mod_init 68 = .ok (.aload_n 0, 1) := by decide +kernel
theorem d_Mod_init_69 : decode b_Mod_init 69 = .ok (.bipush 64, 2) := by decide +kernel
theorem d_Mod_init_71 : decode b_Mod_init 71 = .ok (.newarray .int, 2) := by decide +kernel
theorem d_Mod_init_73 : decode b_Mod_init 73 = .ok (.putfield 37, 3) := by decide +kernel
theorem d_Mod_init_76 : decode b_Mod_init 76 = .ok (.aload_n 0, 1) := by decide +kernel
theorem d_Mod_init_77 : decode b_Mod_init 77 = .ok (.bipush 64, 2) := by decide +kernel
theorem d_Mod_init_79 : decode b_Mod_init 79 = .ok (.newarray .int, 2) := by decide +kernel
theorem d_Mod_init_81 : decode b_Mod_init 81 = .ok (.putfield 40, 3) := by decide +kernel
theorem d_Mod_init_84 : decode b_Mod_init 84 = .ok (.aload_n 0, 1) := by decide +kernel
theorem d_Mod_init_85 : decode b_Mod_init 85 = .ok (.bipush 64, 2) := by decide +kernel
theorem d_Mod_init_87 : decode b_Mod_init 87 = .ok (.newarray .int, 2) := by decide +kernel
theorem d_Mod_init_89 : decode b_Mod_init 89 = .ok (.putfield 43, 3) := by decide +kernel
theorem d_Mod_init_92 : decode b_Mod_init 92 = .ok (.aload_n 0, 1) := by decide +kernel
theorem d_Mod_init_93 : decode b_Mod_init 93 = .ok (.bipush 64, 2) := by decide +kernel
theorem d_Mod_init_95 : decode b_Mod_init 95 = .ok (.newarray .boolean, 2) := by decide +kernel
theorem d_Mod_init_97 : decode b_Mod_init 97 = .ok (.putfield 46, 3) := by decide +kernel
theorem d_Mod_init_100 : decode b_Mod_init 100 = .ok (.aload_n 0, 1) := by decide +kernel
theorem d_Mod_init_101 : decode b_Mod_init 101 = .ok (.bipush 64, 2) := by decide +kernel
theorem d_Mod_init_103 : decode b_Mod_init 103 = .ok (.newarray .int, 2) := by decide +kernel
theorem d_Mod_init_105 : decode b_Mod_init 105 = .ok (.putfield 50, 3) := by decide +kernel
theorem d_Mod_init_108 : decode b_Mod_init 108 = .ok (.aload_n 0, 1) := by decide +kernel
theorem d_Mod_init_109 : decode b_Mod_init 109 = .ok (.bipush 64, 2) := by decide +kernel
theorem d_Mod_init_111 : decode b_Mod_init 111 = .ok (.newarray .int, 2) := by decide +kernel
theorem d_Mod_init_113 : decode b_Mod_init 113 = .ok (.putfield 53, 3) := by decide +kernel
theorem d_Mod_init_116 : decode b_Mod_init 116 = .ok (.aload_n 0, 1) := by decide +kernel
theorem d_Mod_init_117 : decode b_Mod_init 117 = .ok (.bipush 64, 2) := by decide +kernel
theorem d_Mod_init_119 : decode b_Mod_init 119 = .ok (.newarray .boolean, 2) := by decide +kernel
theorem d_Mod_init_121 : decode b_Mod_init 121 = .ok (.putfield 56, 3) := by decide +kernel
theorem d_Mod_init_124 : decode b_Mod_init 124 = .ok (.aload_n 0, 1) := by decide +kernel
theorem d_Mod_init_125 : decode b_Mod_init 125 = .ok (.bipush 64, 2) := by decide +kernel
theorem d_Mod_init_127 : decode b_Mod_init 127 = .ok (.newarray .int, 2) := by decide +kernel
theorem d_Mod_init_129 : decode b_Mod_init 129 = .ok (.putfield 59, 3) := by decide +kernel
theorem d_Mod_init_132 : decode b_Mod_init 132 = .ok (.aload_n 0, 1) := by decide +kernel
theorem d_Mod_init_133 : decode b_Mod_init 133 = .ok (.bipush 64, 2) := by decide +kernel
theorem d_Mod_init_135 : decode b_Mod_init 135 = .ok (.newarray .int, 2) := by decide +kernel
theorem d_Mod_init_137 : decode b_Mod_init 137 = .ok (.putfield 62, 3) := by decide +kernel
theorem d_Mod_init_140 : decode b_Mod_init 140 = .ok (.aload_n 0, 1) := by decide +kernel
theorem d_Mod_init_141 : decode b_Mod_init 141 = .ok (.bipush 64, 2) := by decide +kernel
theorem d_Mod_init_143 : decode b_Mod_init 143 = .ok (.newarray .int, 2) := by decide +kernel
theorem d_Mod_init_145 : decode b_Mod_init 145 = .ok (.putfield 65, 3) := by decide +kernel
theorem d_Mod_init_148 : decode b_Mod_init 148 = .ok (.aload_n 0, 1) := by decide +kernel
theorem d_Mod_init_149 : decode b_Mod_init 149 = .ok (.bipush 64, 2) := by decide +kernel
theorem d_Mod_init_151 : decode b_Mod_init 151 = .ok (.newarray .boolean, 2) := by decide +kernel
theorem d_Mod_init_153 : decode b_Mod_init 153 = .ok (.putfield 68, 3) := by decide +kernel
theorem d_Mod_init_156 : decode b_Mod_init 156 = .ok (.aload_n 0, 1) := by decide +kernel
theorem d_Mod_init_157 : decode b_Mod_init 157 = .ok (.bipush 64, 2) := by decide +kernel
theorem d_Mod_init_159 : decode b_Mod_init 159 = .ok (.newarray .boolean, 2) := by decide +kernel
theorem d_Mod_init_161 : decode b_Mod_init 161 = .ok (.putfield 71, 3) := by decide +kernel
theorem d_Mod_init_164 : decode b_Mod_init 164 = .ok (.aload_n 0, 1) := by decide +kernel
theorem d_Mod_init_165 : decode b_Mod_init 165 = .ok (.bipush 16, 2) := by decide +kernel
theorem d_Mod_init_167 : decode b_Mod_init 167 = .ok (.newarray .int, 2) := by decide +kernel
theorem d_Mod_init_169 : decode b_Mod_init 169 = .ok (.putfield 74, 3) := by decide +kernel
theorem d_Mod_init_172 : decode b_Mod_init 172 = .ok (.aload_n 0, 1) := by decide +kernel
theorem d_Mod_init_173 : decode b_Mod_init 173 = .ok (.bipush 16, 2) := by decide +kernel
theorem d_Mod_init_175 : decode b_Mod_init 175 = .ok (.newarray .int, 2) := by decide +kernel
theorem d_Mod_init_177 : decode b_Mod_init 177 = .ok (.putfield 77, 3) := by decide +kernel
theorem d_Mod_init_180 : decode b_Mod_init 180 = .ok (.aload_n 0, 1) := by decide +kernel
theorem d_Mod_init_181 : decode b_Mod_init 181 = .ok (.bipush 16, 2) := by decide +kernel
theorem d_Mod_init_183 : decode b_Mod_init 183 = .ok (.newarray .int, 2) := by decide +kernel
theorem d_Mod_init_185 : decode b_Mod_init 185 = .ok (.putfield 80, 3) := by decide +kernel
theorem d_Mod_init_188 : decode b_Mod_init 188 = .ok (.aload_n 0, 1) := by decide +kernel
theorem d_Mod_init_189 : decode b_Mod_init 189 = .ok (.bipush 16, 2) := by decide +kernel
theorem d_Mod_init_191 : decode b_Mod_init 191 = .ok (.newarray .int, 2) := by decide +kernel
theorem d_Mod_init_193 : decode b_Mod_init 193 = .ok (.putfield 83, 3) := by decide +kernel
theorem d_Mod_init_196 : decode b_Mod_init 196 = .ok (.aload_n 0, 1) := by decide +kernel
theorem d_Mod_init_197 : decode b_Mod_init 197 = .ok (.sipush 4200, 3) := by decide +kernel
theorem d_Mod_init_200 : decode b_Mod_init 200 = .ok (.newarray .int, 2) := by decide +kernel
theorem d_Mod_init_202 : decode b_Mod_init 202 = .ok (.putfield 86, 3) := by decide +kernel
theorem d_Mod_init_205 : decode b_Mod_init 205 = .ok (.aload_n 0, 1) := by decide +kernel
theorem d_Mod_init_206 : decode b_Mod_init 206 = .ok (.sipush 4200, 3) := by decide +kernel
theorem d_Mod_init_209 : decode b_Mod_init 209 = .ok (.newarray .int, 2) := by decide +kernel
theorem d_Mod_init_211 : decode b_Mod_init 211 = .ok (.putfield 89, 3) := by decide +kernel
theorem d_Mod_init_214 : decode b_Mod_init 214 = .ok (.aload_n 0, 1) := by decide +kernel
theorem d_Mod_init_215 : decode b_Mod_init 215 = .ok (.bipush 14, 2) := by decide +kernel
theorem d_Mod_init_217 : decode b_Mod_init 217 = .ok (.newarray .int, 2) := by decide +kernel
theorem d_Mod_init_219 : decode b_Mod_init 219 = .ok (.putfield 92, 3) := by decide +kernel
theorem d_Mod_init_222 : decode b_Mod_init 222 = .ok (.aload_n 0, 1) := by decide +kernel
theorem d_Mod_init_223 : decode b_Mod_init 223 = .ok (.bipush 14, 2) := by decide +kernel
theorem d_Mod_init_225 : decode b_Mod_init 225 = .ok (.newarray .int, 2) := by decide +kernel
theorem d_Mod_init_227 : decode b_Mod_init 227 = .ok (.putfield 95, 3) := by decide +kernel
theorem d_Mod_init_230 : decode b_Mod_init 230 = .ok (.aload_n 0, 1) := by decide +kernel
theorem d_Mod_init_231 : decode b_Mod_init 231 = .ok (.iload_n 1, 1) := by decide +kernel
theorem d_Mod_init_232 : decode b_Mod_init 232 = .ok (.iconst 2, 1) := by decide +kernel
theorem d_Mod_init_233 : decode b_Mod_init 233 = .ok (.if_icmp .ge 7, 3) := by decide +kernel
theorem d_Mod_init_236 : decode b_Mod_init 236 = .ok (.iconst 2, 1) := by decide +kernel
theorem d_Mod_init_237 : decode b_Mod_init 237 = .ok (.goto 15, 3) := by decide +kernel
theorem d_Mod_init_240 : decode b_Mod_init 240 = .ok (.iload_n 1, 1) := by decide +kernel
theorem d_Mod_init_241 : decode b_Mod_init 241 = .ok (.bipush 32, 2) := by decide +kernel
theorem d_Mod_init_243 : decode b_Mod_init 243 = .ok (.if_icmp .le 8, 3) := by decide +kernel
theorem d_Mod_init_246 : decode b_Mod_init 246 = .ok (.bipush 32, 2) := by decide +kernel
theorem d_Mod_init_248 : decode b_Mod_init 248 = .ok (.goto 4, 3) := by decide +kernel
theorem d_Mod_init_251 : decode b_Mod_init 251 = .ok (.iload_n 1, 1) := by decide +kernel
theorem d_Mod_init_252 : decode b_Mod_init 252 = .ok (.putfield 98, 3) := by decide +kernel
theorem d_Mod_init_255 : decode b_Mod_init 255 = .ok (.aload_n 0, 1) := by decide +kernel
theorem d_Mod_init_256 : decode b_Mod_init 256 = .ok (.iload_n 2, 1) := by decide +kernel
theorem d_Mod_init_257 : decode b_Mod_init 257 = .ok (.iconst 1, 1) := by decide +kernel
theorem d_Mod_init_258 : decode b_Mod_init 258 = .ok (.if_icmp .ge 7, 3) := by decide +kernel
theorem d_Mod_init_261 : decode b_Mod_init 261 = .ok (.iconst 1, 1) := by decide +kernel
theorem d_Mod_init_262 : decode b_Mod_init 262 = .ok (.goto 17, 3) := by decide +kernel
theorem d_Mod_init_265 : decode b_Mod_init 265 = .ok (.iload_n 2, 1) := by decide +kernel
theorem d_Mod_init_266 : decode b_Mod_init 266 = .ok (.sipush 10000, 3) := by decide +kernel
theorem d_Mod_init_269 : decode b_Mod_init 269 = .ok (.if_icmp .le 9, 3) := by decide +kernel
theorem d_Mod_init_272 : decode b_Mod_init 272 = .ok (.sipush 10000, 3) := by decide +kernel
theorem d_Mod_init_275 : decode b_Mod_init 275 = .ok (.goto 4, 3) := by decide +kernel
theorem d_Mod_init_278 : decode b_Mod_init 278 = .ok (.iload_n 2, 1) := by decide +kernel
theorem d_Mod_init_279 : decode b_Mod_init 279 = .ok (.putfield 102, 3) := by decide +kernel
theorem d_Mod_init_282 : decode b_Mod_init 282 = .ok (.aload_n 0, 1) := by decide +kernel
theorem d_Mod_init_283 : decode b_Mod_init 283 = .ok (.iload_n 3, 1) := by decide +kernel
theorem d_Mod_init_284 : decode b_Mod_init 284 = .ok (.ifCond .ge 7, 3) := by decide +kernel
theorem d_Mod_init_287 : decode b_Mod_init 287 = .ok (.iconst 0, 1) := by decide +kernel
theorem d_Mod_init_288 : decode b_Mod_init 288 = .ok (.goto 17, 3) := by decide +kernel
theorem d_Mod_init_291 : decode b_Mod_init 291 = .ok (.iload_n 3, 1) := by decide +kernel
theorem d_Mod_init_292 : decode b_Mod_init 292 = .ok (.sipush 1000, 3) := by decide +kernel
theorem d_Mod_init_295 : decode b_Mod_init 295 = .ok (.if_icmp .le 9, 3) := by decide +kernel
theorem d_Mod_init_298 : decode b_Mod_init 298 = .ok (.sipush 1000, 3) := by decide +kernel
theorem d_Mod_init_301 : decode b_Mod_init 301 = .ok (.goto 4, 3) := by decide +kernel
theorem d_Mod_init_304 : decode b_Mod_init 304 = .ok (.iload_n 3, 1) := by decide +kernel
theorem d_Mod_init_305 : decode b_Mod_init 305 = .ok (.putfield 105, 3) := by decide +kernel
theorem d_Mod_init_308 : decode b_Mod_init 308 = .ok (.iconst 0, 1) := by decide +kernel
theorem d_Mod_init_309 : decode b_Mod_init 309 = .ok (.istore 4, 2) := by decide +kernel
theorem d_Mod_init_311 : decode b_Mod_init 311 = .ok (.iload 4, 2) := by decide +kernel
theorem d_Mod_init_313 : decode b_Mod_init 313 = .ok (.iconst 2, 1) := by decide +kernel
theorem d_Mod_init_314 : decode b_Mod_init 314 = .ok (.if_icmp .ge 100, 3) := by decide +kernel
theorem d_Mod_init_317 : decode b_Mod_init 317 = .ok (.aload_n 0, 1) := by decide +kernel
theorem d_Mod_init_318 : decode b_Mod_init 318 = .ok (.getfield 7, 3) := by decide +kernel
theorem d_Mod_init_321 : decode b_Mod_init 321 = .ok (.iload 4, 2) := by decide +kernel
theorem d_Mod_init_323 : decode b_Mod_init 323 = .ok (.iconst 2, 1) := by decide +kernel
theorem d_Mod_init_324 : decode b_Mod_init 324 = .ok (.iastore, 1) := by decide +kernel
theorem d_Mod_init_325 : decode b_Mod_init 325 = .ok (.aload_n 0, 1) := by decide +kernel
theorem d_Mod_init_326 : decode b_Mod_init 326 = .ok (.getfield 16, 3) := by decide +kernel
theorem d_Mod_init_329 : decode b_Mod_init 329 = .ok (.iload 4, 2) := by decide +kernel
theorem d_Mod_init_331 : decode b_Mod_init 331 = .ok (.iconst 1, 1) := by decide +kernel
theorem d_Mod_init_332 : decode b_Mod_init 332 = .ok (.iastore, 1) := by decide +kernel
theorem d_Mod_init_333 : decode b_Mod_init 333 = .ok (.aload_n 0, 1) := by decide +kernel
theorem d_Mod_init_334 : decode b_Mod_init 334 = .ok (.getfield 19, 3) := by decide +kernel
theorem d_Mod_init_337 : decode b_Mod_init 337 = .ok (.iload 4, 2) := by decide +kernel
theorem d_Mod_init_339 : decode b_Mod_init 339 = .ok (.iconst 1, 1) := by decide +kernel
theorem d_Mod_init_340 : decode b_Mod_init 340 = .ok (.iastore, 1) := by decide +kernel
theorem d_Mod_init_341 : decode b_Mod_init 341 = .ok (.aload_n 0, 1) := by decide +kernel
theorem d_Mod_init_342 : decode b_Mod_init 342 = .ok (.getfield 22, 3) := by decide +kernel
theorem d_Mod_init_345 : decode b_Mod_init 345 = .ok (.iload 4, 2) := by decide +kernel
theorem d_Mod_init_347 : decode b_Mod_init 347 = .ok (.iconst 1, 1) := by decide +kernel
theorem d_Mod_init_348 : decode b_Mod_init 348 = .ok (.iastore, 1) := by decide +kernel
theorem d_Mod_init_349 : decode b_Mod_init 349 = .ok (.iconst 0, 1) := by decide +kernel
theorem d_Mod_init_350 : decode b_Mod_init 350 = .ok (.istore 5, 2) := by decide +kernel
theorem d_Mod_init_352 : decode b_Mod_init 352 = .ok (.iload 5, 2) := by decide +kernel
theorem d_Mod_init_354 : decode b_Mod_init 354 = .ok (.aload_n 0, 1) := by decide +kernel
theorem d_Mod_init_355 : decode b_Mod_init 355 = .ok (.getfield 98, 3) := by decide +kernel
theorem d_Mod_init_358 : decode b_Mod_init 358 = .ok (.if_icmp .ge 50, 3) := by decide +kernel
theorem d_Mod_init_361 : decode b_Mod_init 361 = .ok (.aload_n 0, 1) := by decide +kernel
theorem d_Mod_init_362 : decode b_Mod_init 362 = .ok (.getfield 34, 3) := by decide +kernel
theorem d_Mod_init_365 : decode b_Mod_init 365 = .ok (.bipush 32, 2) := by decide +kernel
theorem d_Mod_init_367 : decode b_Mod_init 367 = .ok (.iload 4, 2) := by decide +kernel
theorem d_Mod_init_369 : decode b_Mod_init 369 = .ok (.imul, 1) := by decide +kernel
theorem d_Mod_init_370 : decode b_Mod_init 370 = .ok (.iload 5, 2) := by decide +kernel
theorem d_Mod_init_372 : decode b_Mod_init 372 = .ok (.iadd, 1) := by decide +kernel
theorem d_Mod_init_373 : decode b_Mod_init 373 = .ok (.iload 5, 2) := by decide +kernel
theorem d_Mod_init_375 : decode b_Mod_init 375 = .ok (.iconst 2, 1) := by decide +kernel
theorem d_Mod_init_376 : decode b_Mod_init 376 = .ok (.irem, 1) := by decide +kernel
theorem d_Mod_init_377 : decode b_Mod_init 377 = .ok (.iload 4, 2) := by decide +kernel
theorem d_Mod_init_379 : decode b_Mod_init 379 = .ok (.if_icmp .ne 7, 3) := by decide +kernel
theorem d_Mod_init_382 : decode b_Mod_init 382 = .ok (.iconst 1, 1) := by decide +kernel
theorem d_Mod_init_383 : decode b_Mod_init 383 = .ok (.goto 4, 3) := by decide +kernel
theorem d_Mod_init_386 : decode b_Mod_init 386 = .ok (.iconst 0, 1) := by decide +kernel
theorem d_Mod_init_387 : decode b_Mod_init 387 = .ok (.iastore, 1) := by decide +kernel
theorem d_Mod_init_388 : decode b_Mod_init 388 = .ok (.aload_n 0, 1) := by decide +kernel
theorem d_Mod_init_389 : decode b_Mod_init 389 = .ok (.getfield 37, 3) := by decide +kernel
theorem d_Mod_init_392 : decode b_Mod_init 392 = .ok (.bipush 32, 2) := by decide +kernel
theorem d_Mod_init_394 : decode b_Mod_init 394 = .ok (.iload 4, 2) := by decide +kernel
theorem d_Mod_init_396 : decode b_Mod_init 396 = .ok (.imul, 1) := by decide +kernel
theorem d_Mod_init_397 : decode b_Mod_init 397 = .ok (.iload 5, 2) := by decide +kernel
theorem d_Mod_init_399 : decode b_Mod_init 399 = .ok (.iadd, 1) := by decide +kernel
theorem d_Mod_init_400 : decode b_Mod_init 400 = .ok (.iconst (-1), 1) := by decide +kernel
theorem d_Mod_init_401 : decode b_Mod_init 401 = .ok (.iastore, 1) := by decide +kernel
theorem d_Mod_init_402 : decode b_Mod_init 402 = .ok (.iinc 5 1, 3) := by decide +kernel
theorem d_Mod_init_405 : decode b_Mod_init 405 = .ok (.goto (-53), 3) := by decide +kernel
theorem d_Mod_init_408 : decode b_Mod_init 408 = .ok (.iinc 4 1, 3) := by decide +kernel
theorem d_Mod_init_411 : decode b_Mod_init 411 = .ok (.goto (-100), 3) := by decide +kernel
theorem d_Mod_init_414 : decode b_Mod_init 414 = .ok (.iconst 0, 1) := by decide +kernel
theorem d_Mod_init_415 : decode b_Mod_init 415 = .ok (.istore 4, 2) := by decide +kernel
theorem d_Mod_init_417 : decode b_Mod_init 417 = .ok (.iload 4, 2) := by decide +kernel
theorem d_Mod_init_419 : decode b_Mod_init 419 = .ok (.bipush 16, 2) := by decide +kernel
theorem d_Mod_init_421 : decode b_Mod_init 421 = .ok (.if_icmp .ge 17, 3) := by decide +kernel
theorem d_Mod_init_424 : decode b_Mod_init 424 = .ok (.aload_n 0, 1) := by decide +kernel
theorem d_Mod_init_425 : decode b_Mod_init 425 = .ok (.getfield 74, 3) := by decide +kernel
theorem d_Mod_init_428 : decode b_Mod_init 428 = .ok (.iload 4, 2) := by decide +kernel
theorem d_Mod_init_430 : decode b_Mod_init 430 = .ok (.iconst (-1), 1) := by decide +kernel
theorem d_Mod_init_431 : decode b_Mod_init 431 = .ok (.iastore, 1) := by decide +kernel
theorem d_Mod_init_432 : decode b_Mod_init 432 = .ok (.iinc 4 1, 3) := by decide +kernel
theorem d_Mod_init_435 : decode b_Mod_init 435 = .ok (.goto (-18), 3) := by decide +kernel
theorem d_Mod_init_438 : decode b_Mod_init 438 = .ok (.return_, 1) := by decide +kernel
set_option maxRecDepth 100000 in
set_option maxHeartbeats 4000000 in
theorem c_Mod_init (l : Launch) (K : Kx) (n : Nat) (kf : KF K n) (A B C D : MI) (P : MP) (n0 ld0 sk0 : Int32) (hn : ls_ (gr n0 2) 32 = nI n) (hC : ∀ col i, C col i = 0) (hD : ∀ col i, D col i = 0) : Ct l K md_Mod_init (1, 20) (29) (9340) [.ref (K.ad 6 0), .int n0, .int ld0, .int sk0] (Vz K (K.base + 628 + 2 * n)) (bk4 A B C D) P (EQ (Vz K (K.base + 657 + 2 * n)) none (bk4 A B (modC C n (ls_ (gr ld0 1) 10000) (ls_ (gr sk0 0) 1000)) D) (modP K P 29)) := by
  refine ct_of [(0, .ref (K.ad 6 0)), (1, .int n0), (2, .int ld0), (3, .int sk0)] (by decide) (Nat.le_of_ble_eq_true rfl) (ca_r (ca_i (ca_i (ca_i ca_n)))) rfl ?_
  intro X hl hX
  have h : OkX X b_Mod_init R_Mod K := hX.1
  have hN : X.nL = 6 := hX.2.1
  have hin : X.meth.name = "<init>" := hX.2.2.2.2.2.1
  have hn32 := kf.1
  have ms : MSt K (Vz K (K.base + 657 + 2 * n)) (modP K P 29) := ms_made kf (Nat.le_refl _)
  have hmv := ms.1
  have hCl : ∀ (k i : Nat), i + k = 16 → J X K (Vz K (K.base + 657 + 2 * n)) (bk4 A B (cliA (srvA (srvA (up (up (up C 42 0 (nI n)) 43 0 (ls_ (gr ld0 1) 10000)) 44 0 (ls_ (gr sk0 0) 1000)) 0 n) 1 n) i) D) (modP K P 29) 29 9340 417 [(0, .ref (K.ad 6 0)), (4, .int (nI i))] [] := by
    intro k
    induction k with
    | zero =>
      intro i hi
      have hi2 : i = 16 := by omega
      subst hi2
      refine j_iload h d_Mod_init_417 rfl ?_
      refine j_bipush (v := nI 16) h d_Mod_init_419 (by decide +kernel) ?_
      refine j_ic_ge (tgt := 438) h d_Mod_init_421 (by decide) (fun _ => ?_) (fun c => absurd (nI_le (Nat.le_refl _) (by decide)) c)
      exact j_vret hX d_Mod_init_438 rfl (by decide) (by decide) ⟨rfl, rfl, rfl, rfl⟩
    | succ k ih =>
      intro i hi
      have hi2 : i < 16 := by omega
      refine j_iload h d_Mod_init_417 rfl ?_
      refine j_bipush (v := nI 16) h d_Mod_init_419 (by decide +kernel) ?_
      refine j_ic_ge (tgt := 438) h d_Mod_init_421 (by decide) (fun c => absurd c (nI_ge hi2 (by decide))) (fun _ => ?_)
      refine j_aload_n h d_Mod_init_424 rfl ?_
      refine j_getR h d_Mod_init_425 fl_Mod_74 rfl (by assumption) (mP ms (a := 31) (by decide)) ?_
      refine j_iload h d_Mod_init_428 rfl ?_
      refine j_iconst (v := -1) h d_Mod_init_430 (by decide) ?_
      refine m_iast2 (a := 31) (L := 16) (j := i) h ms d_Mod_init_431 (by decide) rfl (by decide) rfl rfl (by omega) ?_
      refine j_iinc (v := nI (i + 1)) h d_Mod_init_432 rfl (nI_i i) (Nat.lt_of_lt_of_eq (m := 6) (by decide) hN.symm) ?_
      refine j_goto (tgt := 417) h d_Mod_init_435 (by decide) ?_
      refine j_lv (lv' := [(0, .ref (K.ad 6 0)), (4, .int (nI (i + 1)))]) (lvs rfl (lvs rfl lvs0)) ?_
      exact ih (i + 1) (by omega)
  have h414 : J X K (Vz K (K.base + 657 + 2 * n)) (bk4 A B (srvA (srvA (up (up (up C 42 0 (nI n)) 43 0 (ls_ (gr ld0 1) 10000)) 44 0 (ls_ (gr sk0 0) 1000)) 0 n) 1 n) D) (modP K P 29) 29 9340 414 [(0, .ref (K.ad 6 0))] [] := by
    refine j_iconst (v := nI 0) h d_Mod_init_414 (by decide +kernel) ?_
    refine j_istore h d_Mod_init_415 (Nat.lt_of_lt_of_eq (m := 6) (by decide) hN.symm) ?_
    refine j_lv (lv' := [(0, .ref (K.ad 6 0)), (4, .int (nI 0))]) (lvs rfl (lvs rfl lvs0)) ?_
    exact hCl 16 0 (by decide)
  have hIn : ∀ (s : Nat) (hs : s < 2) (CU : MI) (hU : CU 42 0 = nI n) (kont : J X K (Vz K (K.base + 657 + 2 * n)) (bk4 A B (recA CU s n) D) (modP K P 29) 29 9340 408 [(0, .ref (K.ad 6 0)), (4, .int (nI s))] []) (k i : Nat), i + k = n → J X K (Vz K (K.base + 657 + 2 * n)) (bk4 A B (recA CU s i) D) (modP K P 29) 29 9340 352 [(0, .ref (K.ad 6 0)), (4, .int (nI s)), (5, .int (nI i))] [] := by
    intro s hs CU hU kont k
    induction k with
    | zero =>
      intro i hi
      have hi2 : i = n := by omega
      subst hi2
      have h42 : recA CU s i 42 0 = nI i := (recA_c CU s (by decide) (by decide) i).trans hU
      refine j_iload h d_Mod_init_352 rfl ?_
      refine j_aload_n h d_Mod_init_354 rfl ?_
      refine j_get2e (v := nI i) h d_Mod_init_355 fl_Mod_98 rfl (by assumption) h42 ?_
      refine j_ic_ge (tgt := 408) h d_Mod_init_358 (by decide) (fun _ => ?_) (fun c => absurd (nI_le (Nat.le_refl _) (by omega)) c)
      refine j_lv (lv' := [(0, .ref (K.ad 6 0)), (4, .int (nI s))]) (lvs rfl (lvs rfl lvs0)) ?_
      exact kont
    | succ k ih =>
      intro i hi
      have hi2 : i < n := by omega
      have h42 : recA CU s i 42 0 = nI n := (recA_c CU s (by decide) (by decide) i).trans hU
      refine j_iload h d_Mod_init_352 rfl ?_
      refine j_aload_n h d_Mod_init_354 rfl ?_
      refine j_get2e (v := nI n) h d_Mod_init_355 fl_Mod_98 rfl (by assumption) (by first | exact h42 | simpa [up_rd] using h42) ?_
      refine j_ic_ge (tgt := 408) h d_Mod_init_358 (by decide) (fun c => absurd c (nI_ge hi2 (by omega))) (fun _ => ?_)
      refine j_aload_n h d_Mod_init_361 rfl ?_
      refine j_getR h d_Mod_init_362 fl_Mod_34 rfl (by assumption) (mP ms (a := 18) (by decide)) ?_
      refine j_bipush (v := 32) h d_Mod_init_365 (by decide) ?_
      refine j_iload h d_Mod_init_367 rfl ?_
      refine j_imul h d_Mod_init_369 ?_
      refine j_iload h d_Mod_init_370 rfl ?_
      refine j_ix32 (s := s) (a := i) h d_Mod_init_372 ?_
      refine j_iload h d_Mod_init_373 rfl ?_
      refine j_iconst (v := 2) h d_Mod_init_375 (by decide) ?_
      refine j_irem h d_Mod_init_376 (by decide) ?_
      refine j_iload h d_Mod_init_377 rfl ?_
      refine j_ic_ne (tgt := 386) h d_Mod_init_379 (by decide) (fun c => ?_) (fun c => ?_)
      · have e : recA CU s (i + 1) = up (up (recA CU s i) 10 (32 * s + i) 0) 11 (32 * s + i) (-1) := by
          show up (up (recA CU s i) 10 (32 * s + i) (b01 (i % 2 = s))) 11 (32 * s + i) (-1) = _
          rw [b01_f (fun q => c (by rw [rem2 (by omega), q]))]
        refine j_iconst (v := 0) h d_Mod_init_386 (by decide) ?_
        refine m_iast2 (a := 18) (L := 64) (j := (32 * s + i)) h ms d_Mod_init_387 (by decide) rfl (by decide) rfl rfl (by omega) ?_
        refine j_aload_n h d_Mod_init_388 rfl ?_
        refine j_getR h d_Mod_init_389 fl_Mod_37 rfl (by assumption) (mP ms (a := 19) (by decide)) ?_
        refine j_bipush (v := 32) h d_Mod_init_392 (by decide) ?_
        refine j_iload h d_Mod_init_394 rfl ?_
        refine j_imul h d_Mod_init_396 ?_
        refine j_iload h d_Mod_init_397 rfl ?_
        refine j_ix32 (s := s) (a := i) h d_Mod_init_399 ?_
        refine j_iconst (v := -1) h d_Mod_init_400 (by decide) ?_
        refine m_iast2 (a := 19) (L := 64) (j := (32 * s + i)) h ms d_Mod_init_401 (by decide) rfl (by decide) rfl rfl (by omega) ?_
        refine j_iinc (v := nI (i + 1)) h d_Mod_init_402 rfl (nI_i i) (Nat.lt_of_lt_of_eq (m := 6) (by decide) hN.symm) ?_
        refine j_goto (tgt := 352) h d_Mod_init_405 (by decide) ?_
        refine j_lv (lv' := [(0, .ref (K.ad 6 0)), (4, .int (nI s)), (5, .int (nI (i + 1)))]) (lvs rfl (lvs rfl (lvs rfl lvs0))) ?_
        rw [← e]
        exact ih (i + 1) (by omega)
      · have e : recA CU s (i + 1) = up (up (recA CU s i) 10 (32 * s + i) 1) 11 (32 * s + i) (-1) := by
          show up (up (recA CU s i) 10 (32 * s + i) (b01 (i % 2 = s))) 11 (32 * s + i) (-1) = _
          rw [b01_t ((nI_eq (by omega) (by omega)).mp (by rw [← rem2 (by omega)]; exact c))]
        refine j_iconst (v := 1) h d_Mod_init_382 (by decide) ?_
        refine j_goto (tgt := 387) h d_Mod_init_383 (by decide) ?_
        refine m_iast2 (a := 18) (L := 64) (j := (32 * s + i)) h ms d_Mod_init_387 (by decide) rfl (by decide) rfl rfl (by omega) ?_
        refine j_aload_n h d_Mod_init_388 rfl ?_
        refine j_getR h d_Mod_init_389 fl_Mod_37 rfl (by assumption) (mP ms (a := 19) (by decide)) ?_
        refine j_bipush (v := 32) h d_Mod_init_392 (by decide) ?_
        refine j_iload h d_Mod_init_394 rfl ?_
        refine j_imul h d_Mod_init_396 ?_
        refine j_iload h d_Mod_init_397 rfl ?_
        refine j_ix32 (s := s) (a := i) h d_Mod_init_399 ?_
        refine j_iconst (v := -1) h d_Mod_init_400 (by decide) ?_
        refine m_iast2 (a := 19) (L := 64) (j := (32 * s + i)) h ms d_Mod_init_401 (by decide) rfl (by decide) rfl rfl (by omega) ?_
        refine j_iinc (v := nI (i + 1)) h d_Mod_init_402 rfl (nI_i i) (Nat.lt_of_lt_of_eq (m := 6) (by decide) hN.symm) ?_
        refine j_goto (tgt := 352) h d_Mod_init_405 (by decide) ?_
        refine j_lv (lv' := [(0, .ref (K.ad 6 0)), (4, .int (nI s)), (5, .int (nI (i + 1)))]) (lvs rfl (lvs rfl (lvs rfl lvs0))) ?_
        rw [← e]
        exact ih (i + 1) (by omega)
  have hO : ∀ (s : Nat) (hs : s < 2) (C0 : MI) (h0 : C0 42 0 = nI n) (kont : J X K (Vz K (K.base + 657 + 2 * n)) (bk4 A B (srvA C0 s n) D) (modP K P 29) 29 9340 311 [(0, .ref (K.ad 6 0)), (4, .int (nI (s + 1)))] []), J X K (Vz K (K.base + 657 + 2 * n)) (bk4 A B C0 D) (modP K P 29) 29 9340 311 [(0, .ref (K.ad 6 0)), (4, .int (nI s))] [] := by
    intro s hs C0 h0 kont
    have e : recA (up (up (up (up C0 0 s 2) 2 s 1) 3 s 1) 4 s 1) s n = srvA C0 s n := by
      unfold srvA
      rw [recA_up _ _ (by decide) (by decide), recA_up _ _ (by decide) (by decide), recA_up _ _ (by decide) (by decide), recA_up _ _ (by decide) (by decide)]
    refine j_iload h d_Mod_init_311 rfl ?_
    refine j_iconst (v := nI 2) h d_Mod_init_313 (by decide +kernel) ?_
    refine j_ic_ge (tgt := 414) h d_Mod_init_314 (by decide) (fun c => absurd c (nI_ge hs (by decide))) (fun _ => ?_)
    refine j_aload_n h d_Mod_init_317 rfl ?_
    refine j_getR h d_Mod_init_318 fl_Mod_7 rfl (by assumption) (mP ms (a := 10) (by decide)) ?_
    refine j_iload h d_Mod_init_321 rfl ?_
    refine j_iconst (v := 2) h d_Mod_init_323 (by decide) ?_
    refine m_iast2 (a := 10) (L := 2) (j := s) h ms d_Mod_init_324 (by decide) rfl (by decide) rfl rfl (by omega) ?_
    refine j_aload_n h d_Mod_init_325 rfl ?_
    refine j_getR h d_Mod_init_326 fl_Mod_16 rfl (by assumption) (mP ms (a := 12) (by decide)) ?_
    refine j_iload h d_Mod_init_329 rfl ?_
    refine j_iconst (v := 1) h d_Mod_init_331 (by decide) ?_
    refine m_iast2 (a := 12) (L := 2) (j := s) h ms d_Mod_init_332 (by decide) rfl (by decide) rfl rfl (by omega) ?_
    refine j_aload_n h d_Mod_init_333 rfl ?_
    refine j_getR h d_Mod_init_334 fl_Mod_19 rfl (by assumption) (mP ms (a := 13) (by decide)) ?_
    refine j_iload h d_Mod_init_337 rfl ?_
    refine j_iconst (v := 1) h d_Mod_init_339 (by decide) ?_
    refine m_iast2 (a := 13) (L := 2) (j := s) h ms d_Mod_init_340 (by decide) rfl (by decide) rfl rfl (by omega) ?_
    refine j_aload_n h d_Mod_init_341 rfl ?_
    refine j_getR h d_Mod_init_342 fl_Mod_22 rfl (by assumption) (mP ms (a := 14) (by decide)) ?_
    refine j_iload h d_Mod_init_345 rfl ?_
    refine j_iconst (v := 1) h d_Mod_init_347 (by decide) ?_
    refine m_iast2 (a := 14) (L := 2) (j := s) h ms d_Mod_init_348 (by decide) rfl (by decide) rfl rfl (by omega) ?_
    refine j_iconst (v := nI 0) h d_Mod_init_349 (by decide +kernel) ?_
    refine j_istore h d_Mod_init_350 (Nat.lt_of_lt_of_eq (m := 6) (by decide) hN.symm) ?_
    refine j_lv (lv' := [(0, .ref (K.ad 6 0)), (4, .int (nI s)), (5, .int (nI 0))]) (lvs rfl (lvs rfl (lvs rfl lvs0))) ?_
    refine hIn s hs (up (up (up (up C0 0 s 2) 2 s 1) 3 s 1) 4 s 1) (by rw [up_c _ _ (by decide), up_c _ _ (by decide), up_c _ _ (by decide), up_c _ _ (by decide)]; exact h0) ?_ n 0 (by omega)
    rw [e]
    refine j_iinc (v := nI (s + 1)) h d_Mod_init_408 rfl (nI_i s) (Nat.lt_of_lt_of_eq (m := 6) (by decide) hN.symm) ?_
    refine j_goto (tgt := 311) h d_Mod_init_411 (by decide) ?_
    refine j_lv (lv' := [(0, .ref (K.ad 6 0)), (4, .int (nI (s + 1)))]) (lvs rfl (lvs rfl lvs0)) ?_
    exact kont
  have h308 : J X K (Vz K (K.base + 657 + 2 * n)) (bk4 A B (up (up (up C 42 0 (nI n)) 43 0 (ls_ (gr ld0 1) 10000)) 44 0 (ls_ (gr sk0 0) 1000)) D) (modP K P 29) 29 9340 308 [(0, .ref (K.ad 6 0))] [] := by
    have h42 : (up (up (up C 42 0 (nI n)) 43 0 (ls_ (gr ld0 1) 10000)) 44 0 (ls_ (gr sk0 0) 1000)) 42 0 = nI n := by rw [up_c _ _ (by decide), up_c _ _ (by decide), up_s]
    refine j_iconst (v := nI 0) h d_Mod_init_308 (by decide +kernel) ?_
    refine j_istore h d_Mod_init_309 (Nat.lt_of_lt_of_eq (m := 6) (by decide) hN.symm) ?_
    refine j_lv (lv' := [(0, .ref (K.ad 6 0)), (4, .int (nI 0))]) (lvs rfl (lvs rfl lvs0)) ?_
    refine hO 0 (by decide) _ h42 (hO 1 (by decide) _ ((srvA_c _ 0 n (by decide) (by decide) (by decide)).trans h42) ?_)
    refine j_iload h d_Mod_init_311 rfl ?_
    refine j_iconst (v := nI 2) h d_Mod_init_313 (by decide +kernel) ?_
    refine j_ic_ge (tgt := 414) h d_Mod_init_314 (by decide) (fun _ => ?_) (fun c => absurd (nI_le (Nat.le_refl _) (by decide)) c)
    refine j_lv (lv' := [(0, .ref (K.ad 6 0))]) (lvs rfl lvs0) ?_
    exact h414
  have h305 : J X K (Vz K (K.base + 657 + 2 * n)) (bk4 A B (up (up C 42 0 (nI n)) 43 0 (ls_ (gr ld0 1) 10000)) D) (modP K P 29) 29 9340 305 [(0, .ref (K.ad 6 0)), (1, .int n0), (2, .int ld0), (3, .int sk0)] [.int (ls_ (gr sk0 0) 1000), .ref (K.ad 6 0)] := by
    refine j_putF2 h hin d_Mod_init_305 fi_Mod_105 rfl rfl (by assumption) ?_
    refine j_lv (lv' := [(0, .ref (K.ad 6 0))]) (lvs rfl lvs0) ?_
    exact h308
  have h279 : J X K (Vz K (K.base + 657 + 2 * n)) (bk4 A B (up C 42 0 (nI n)) D) (modP K P 29) 29 9340 279 [(0, .ref (K.ad 6 0)), (1, .int n0), (2, .int ld0), (3, .int sk0)] [.int (ls_ (gr ld0 1) 10000), .ref (K.ad 6 0)] := by
    refine j_putF2 h hin d_Mod_init_279 fi_Mod_102 rfl rfl (by assumption) ?_
    refine j_aload_n h d_Mod_init_282 rfl ?_
    refine j_iload_n h d_Mod_init_283 rfl ?_
    refine j_if_ge (tgt := 291) h d_Mod_init_284 (by decide) (fun c1 => ?_) (fun c1 => ?_)
    · refine j_iload_n h d_Mod_init_291 rfl ?_
      refine j_sipush (v := 1000) h d_Mod_init_292 (by decide) ?_
      refine j_ic_le (tgt := 304) h d_Mod_init_295 (by decide) (fun c2 => ?_) (fun c2 => ?_)
      · refine j_iload_n h d_Mod_init_304 rfl ?_
        refine j_int (v' := (ls_ (gr sk0 0) 1000)) (cl_in c1 c2) ?_
        exact h305
      · refine j_sipush (v := 1000) h d_Mod_init_298 (by decide) ?_
        refine j_goto (tgt := 305) h d_Mod_init_301 (by decide) ?_
        refine j_int (v' := (ls_ (gr sk0 0) 1000)) (cl_hi c1 c2) ?_
        exact h305
    · refine j_iconst (v := 0) h d_Mod_init_287 (by decide) ?_
      refine j_goto (tgt := 305) h d_Mod_init_288 (by decide) ?_
      refine j_int (v' := (ls_ (gr sk0 0) 1000)) (cl_lo (by decide) c1) ?_
      exact h305
  have h252 : J X K (Vz K (K.base + 657 + 2 * n)) (bk4 A B C D) (modP K P 29) 29 9340 252 [(0, .ref (K.ad 6 0)), (1, .int n0), (2, .int ld0), (3, .int sk0)] [.int (nI n), .ref (K.ad 6 0)] := by
    refine j_putF2 h hin d_Mod_init_252 fi_Mod_98 rfl rfl (by assumption) ?_
    refine j_aload_n h d_Mod_init_255 rfl ?_
    refine j_iload_n h d_Mod_init_256 rfl ?_
    refine j_iconst (v := 1) h d_Mod_init_257 (by decide) ?_
    refine j_ic_ge (tgt := 265) h d_Mod_init_258 (by decide) (fun c1 => ?_) (fun c1 => ?_)
    · refine j_iload_n h d_Mod_init_265 rfl ?_
      refine j_sipush (v := 10000) h d_Mod_init_266 (by decide) ?_
      refine j_ic_le (tgt := 278) h d_Mod_init_269 (by decide) (fun c2 => ?_) (fun c2 => ?_)
      · refine j_iload_n h d_Mod_init_278 rfl ?_
        refine j_int (v' := (ls_ (gr ld0 1) 10000)) (cl_in c1 c2) ?_
        exact h279
      · refine j_sipush (v := 10000) h d_Mod_init_272 (by decide) ?_
        refine j_goto (tgt := 279) h d_Mod_init_275 (by decide) ?_
        refine j_int (v' := (ls_ (gr ld0 1) 10000)) (cl_hi c1 c2) ?_
        exact h279
    · refine j_iconst (v := 1) h d_Mod_init_261 (by decide) ?_
      refine j_goto (tgt := 279) h d_Mod_init_262 (by decide) ?_
      refine j_int (v' := (ls_ (gr ld0 1) 10000)) (cl_lo (by decide) c1) ?_
      exact h279
  have h230 : J X K (Vz K (K.base + 657 + 2 * n)) (bk4 A B C D) (modP K P 29) 29 9340 230 [(0, .ref (K.ad 6 0)), (1, .int n0), (2, .int ld0), (3, .int sk0)] [] := by
    refine j_aload_n h d_Mod_init_230 rfl ?_
    refine j_iload_n h d_Mod_init_231 rfl ?_
    refine j_iconst (v := 2) h d_Mod_init_232 (by decide) ?_
    refine j_ic_ge (tgt := 240) h d_Mod_init_233 (by decide) (fun c1 => ?_) (fun c1 => ?_)
    · refine j_iload_n h d_Mod_init_240 rfl ?_
      refine j_bipush (v := 32) h d_Mod_init_241 (by decide) ?_
      refine j_ic_le (tgt := 251) h d_Mod_init_243 (by decide) (fun c2 => ?_) (fun c2 => ?_)
      · refine j_iload_n h d_Mod_init_251 rfl ?_
        refine j_int (v' := nI n) ((cl_in c1 c2).trans hn) ?_
        exact h252
      · refine j_bipush (v := 32) h d_Mod_init_246 (by decide) ?_
        refine j_goto (tgt := 252) h d_Mod_init_248 (by decide) ?_
        refine j_int (v' := nI n) ((cl_hi c1 c2).trans hn) ?_
        exact h252
    · refine j_iconst (v := 2) h d_Mod_init_236 (by decide) ?_
      refine j_goto (tgt := 252) h d_Mod_init_237 (by decide) ?_
      refine j_int (v' := nI n) ((cl_lo (by decide) c1).trans hn) ?_
      exact h252
  refine j_aload_n h d_Mod_init_0 rfl ?_
  refine j_obj h d_Mod_init_1 wo_Mod (hM2_of hX (by decide) (Nat.le_of_ble_eq_true rfl)) ?_
  refine j_aload_n h d_Mod_init_4 rfl ?_
  refine j_iconst (v := nI 2) h d_Mod_init_5 (by decide +kernel) ?_
  refine z_newi (a := 10) (m := 2) h d_Mod_init_6 rfl (by decide) (kf_ma kf (by decide)).2.2 (by decide) rfl (by have := (kf_ma (a := 10) kf (by decide)).1; omega) (kf_ma kf (by decide)).2.1 rfl (hC _) (hf_of hX (by decide) (by decide)) ?_
  refine j_putFR h hin d_Mod_init_8 fi_Mod_7 rfl ⟨rfl, rfl⟩ (vz_o (kf_mod kf).1 (by have := (kf_mod kf).2; omega)) ?_
  refine j_aload_n h d_Mod_init_11 rfl ?_
  refine j_iconst (v := nI 2) h d_Mod_init_12 (by decide +kernel) ?_
  refine z_newi (a := 11) (m := 2) h d_Mod_init_13 rfl (by decide) (kf_ma kf (by decide)).2.2 (by decide) rfl (by have := (kf_ma (a := 11) kf (by decide)).1; omega) (kf_ma kf (by decide)).2.1 rfl (hC _) (hf_of hX (by decide) (by decide)) ?_
  refine j_putFR h hin d_Mod_init_15 fi_Mod_13 rfl ⟨rfl, rfl⟩ (vz_o (kf_mod kf).1 (by have := (kf_mod kf).2; omega)) ?_
  refine j_aload_n h d_Mod_init_18 rfl ?_
  refine j_iconst (v := nI 2) h d_Mod_init_19 (by decide +kernel) ?_
  refine z_newi (a := 12) (m := 2) h d_Mod_init_20 rfl (by decide) (kf_ma kf (by decide)).2.2 (by decide) rfl (by have := (kf_ma (a := 12) kf (by decide)).1; omega) (kf_ma kf (by decide)).2.1 rfl (hC _) (hf_of hX (by decide) (by decide)) ?_
  refine j_putFR h hin d_Mod_init_22 fi_Mod_16 rfl ⟨rfl, rfl⟩ (vz_o (kf_mod kf).1 (by have := (kf_mod kf).2; omega)) ?_
  refine j_aload_n h d_Mod_init_25 rfl ?_
  refine j_iconst (v := nI 2) h d_Mod_init_26 (by decide +kernel) ?_
  refine z_newi (a := 13) (m := 2) h d_Mod_init_27 rfl (by decide) (kf_ma kf (by decide)).2.2 (by decide) rfl (by have := (kf_ma (a := 13) kf (by decide)).1; omega) (kf_ma kf (by decide)).2.1 rfl (hC _) (hf_of hX (by decide) (by decide)) ?_
  refine j_putFR h hin d_Mod_init_29 fi_Mod_19 rfl ⟨rfl, rfl⟩ (vz_o (kf_mod kf).1 (by have := (kf_mod kf).2; omega)) ?_
  refine j_aload_n h d_Mod_init_32 rfl ?_
  refine j_iconst (v := nI 2) h d_Mod_init_33 (by decide +kernel) ?_
  refine z_newi (a := 14) (m := 2) h d_Mod_init_34 rfl (by decide) (kf_ma kf (by decide)).2.2 (by decide) rfl (by have := (kf_ma (a := 14) kf (by decide)).1; omega) (kf_ma kf (by decide)).2.1 rfl (hC _) (hf_of hX (by decide) (by decide)) ?_
  refine j_putFR h hin d_Mod_init_36 fi_Mod_22 rfl ⟨rfl, rfl⟩ (vz_o (kf_mod kf).1 (by have := (kf_mod kf).2; omega)) ?_
  refine j_aload_n h d_Mod_init_39 rfl ?_
  refine j_iconst (v := nI 2) h d_Mod_init_40 (by decide +kernel) ?_
  refine z_newi (a := 15) (m := 2) h d_Mod_init_41 rfl (by decide) (kf_ma kf (by decide)).2.2 (by decide) rfl (by have := (kf_ma (a := 15) kf (by decide)).1; omega) (kf_ma kf (by decide)).2.1 rfl (hC _) (hf_of hX (by decide) (by decide)) ?_
  refine j_putFR h hin d_Mod_init_43 fi_Mod_25 rfl ⟨rfl, rfl⟩ (vz_o (kf_mod kf).1 (by have := (kf_mod kf).2; omega)) ?_
  refine j_aload_n h d_Mod_init_46 rfl ?_
  refine j_iconst (v := nI 2) h d_Mod_init_47 (by decide +kernel) ?_
  refine z_newi (a := 16) (m := 2) h d_Mod_init_48 rfl (by decide) (kf_ma kf (by decide)).2.2 (by decide) rfl (by have := (kf_ma (a := 16) kf (by decide)).1; omega) (kf_ma kf (by decide)).2.1 rfl (hC _) (hf_of hX (by decide) (by decide)) ?_
  refine j_putFR h hin d_Mod_init_50 fi_Mod_28 rfl ⟨rfl, rfl⟩ (vz_o (kf_mod kf).1 (by have := (kf_mod kf).2; omega)) ?_
  refine j_aload_n h d_Mod_init_53 rfl ?_
  refine j_iconst (v := nI 2) h d_Mod_init_54 (by decide +kernel) ?_
  refine z_newi (a := 17) (m := 2) h d_Mod_init_55 rfl (by decide) (kf_ma kf (by decide)).2.2 (by decide) rfl (by have := (kf_ma (a := 17) kf (by decide)).1; omega) (kf_ma kf (by decide)).2.1 rfl (hC _) (hf_of hX (by decide) (by decide)) ?_
  refine j_putFR h hin d_Mod_init_57 fi_Mod_31 rfl ⟨rfl, rfl⟩ (vz_o (kf_mod kf).1 (by have := (kf_mod kf).2; omega)) ?_
  refine j_aload_n h d_Mod_init_60 rfl ?_
  refine j_bipush (v := nI 64) h d_Mod_init_61 (by decide +kernel) ?_
  refine z_newi (a := 18) (m := 64) h d_Mod_init_63 rfl (by decide) (kf_ma kf (by decide)).2.2 (by decide) rfl (by have := (kf_ma (a := 18) kf (by decide)).1; omega) (kf_ma kf (by decide)).2.1 rfl (hC _) (hf_of hX (by decide) (by decide)) ?_
  refine j_putFR h hin d_Mod_init_65 fi_Mod_34 rfl ⟨rfl, rfl⟩ (vz_o (kf_mod kf).1 (by have := (kf_mod kf).2; omega)) ?_
  refine j_aload_n h d_Mod_init_68 rfl ?_
  refine j_bipush (v := nI 64) h d_Mod_init_69 (by decide +kernel) ?_
  refine z_newi (a := 19) (m := 64) h d_Mod_init_71 rfl (by decide) (kf_ma kf (by decide)).2.2 (by decide) rfl (by have := (kf_ma (a := 19) kf (by decide)).1; omega) (kf_ma kf (by decide)).2.1 rfl (hC _) (hf_of hX (by decide) (by decide)) ?_
  refine j_putFR h hin d_Mod_init_73 fi_Mod_37 rfl ⟨rfl, rfl⟩ (vz_o (kf_mod kf).1 (by have := (kf_mod kf).2; omega)) ?_
  refine j_aload_n h d_Mod_init_76 rfl ?_
  refine j_bipush (v := nI 64) h d_Mod_init_77 (by decide +kernel) ?_
  refine z_newi (a := 20) (m := 64) h d_Mod_init_79 rfl (by decide) (kf_ma kf (by decide)).2.2 (by decide) rfl (by have := (kf_ma (a := 20) kf (by decide)).1; omega) (kf_ma kf (by decide)).2.1 rfl (hC _) (hf_of hX (by decide) (by decide)) ?_
  refine j_putFR h hin d_Mod_init_81 fi_Mod_40 rfl ⟨rfl, rfl⟩ (vz_o (kf_mod kf).1 (by have := (kf_mod kf).2; omega)) ?_
  refine j_aload_n h d_Mod_init_84 rfl ?_
  refine j_bipush (v := nI 64) h d_Mod_init_85 (by decide +kernel) ?_
  refine z_newi (a := 21) (m := 64) h d_Mod_init_87 rfl (by decide) (kf_ma kf (by decide)).2.2 (by decide) rfl (by have := (kf_ma (a := 21) kf (by decide)).1; omega) (kf_ma kf (by decide)).2.1 rfl (hC _) (hf_of hX (by decide) (by decide)) ?_
  refine j_putFR h hin d_Mod_init_89 fi_Mod_43 rfl ⟨rfl, rfl⟩ (vz_o (kf_mod kf).1 (by have := (kf_mod kf).2; omega)) ?_
  refine j_aload_n h d_Mod_init_92 rfl ?_
  refine j_bipush (v := nI 64) h d_Mod_init_93 (by decide +kernel) ?_
  refine z_newz (a := 22) (m := 64) h d_Mod_init_95 rfl (by decide) (kf_ma kf (by decide)).2.2 (by decide) rfl (by have := (kf_ma (a := 22) kf (by decide)).1; omega) (kf_ma kf (by decide)).2.1 rfl (hC _) (hf_of hX (by decide) (by decide)) ?_
  refine j_putFR h hin d_Mod_init_97 fi_Mod_46 rfl ⟨rfl, rfl⟩ (vz_o (kf_mod kf).1 (by have := (kf_mod kf).2; omega)) ?_
  refine j_aload_n h d_Mod_init_100 rfl ?_
  refine j_bipush (v := nI 64) h d_Mod_init_101 (by decide +kernel) ?_
  refine z_newi (a := 23) (m := 64) h d_Mod_init_103 rfl (by decide) (kf_ma kf (by decide)).2.2 (by decide) rfl (by have := (kf_ma (a := 23) kf (by decide)).1; omega) (kf_ma kf (by decide)).2.1 rfl (hC _) (hf_of hX (by decide) (by decide)) ?_
  refine j_putFR h hin d_Mod_init_105 fi_Mod_50 rfl ⟨rfl, rfl⟩ (vz_o (kf_mod kf).1 (by have := (kf_mod kf).2; omega)) ?_
  refine j_aload_n h d_Mod_init_108 rfl ?_
  refine j_bipush (v := nI 64) h d_Mod_init_109 (by decide +kernel) ?_
  refine z_newi (a := 24) (m := 64) h d_Mod_init_111 rfl (by decide) (kf_ma kf (by decide)).2.2 (by decide) rfl (by have := (kf_ma (a := 24) kf (by decide)).1; omega) (kf_ma kf (by decide)).2.1 rfl (hC _) (hf_of hX (by decide) (by decide)) ?_
  refine j_putFR h hin d_Mod_init_113 fi_Mod_53 rfl ⟨rfl, rfl⟩ (vz_o (kf_mod kf).1 (by have := (kf_mod kf).2; omega)) ?_
  refine j_aload_n h d_Mod_init_116 rfl ?_
  refine j_bipush (v := nI 64) h d_Mod_init_117 (by decide +kernel) ?_
  refine z_newz (a := 25) (m := 64) h d_Mod_init_119 rfl (by decide) (kf_ma kf (by decide)).2.2 (by decide) rfl (by have := (kf_ma (a := 25) kf (by decide)).1; omega) (kf_ma kf (by decide)).2.1 rfl (hC _) (hf_of hX (by decide) (by decide)) ?_
  refine j_putFR h hin d_Mod_init_121 fi_Mod_56 rfl ⟨rfl, rfl⟩ (vz_o (kf_mod kf).1 (by have := (kf_mod kf).2; omega)) ?_
  refine j_aload_n h d_Mod_init_124 rfl ?_
  refine j_bipush (v := nI 64) h d_Mod_init_125 (by decide +kernel) ?_
  refine z_newi (a := 26) (m := 64) h d_Mod_init_127 rfl (by decide) (kf_ma kf (by decide)).2.2 (by decide) rfl (by have := (kf_ma (a := 26) kf (by decide)).1; omega) (kf_ma kf (by decide)).2.1 rfl (hC _) (hf_of hX (by decide) (by decide)) ?_
  refine j_putFR h hin d_Mod_init_129 fi_Mod_59 rfl ⟨rfl, rfl⟩ (vz_o (kf_mod kf).1 (by have := (kf_mod kf).2; omega)) ?_
  refine j_aload_n h d_Mod_init_132 rfl ?_
  refine j_bipush (v := nI 64) h d_Mod_init_133 (by decide +kernel) ?_
  refine z_newi (a := 27) (m := 64) h d_Mod_init_135 rfl (by decide) (kf_ma kf (by decide)).2.2 (by decide) rfl (by have := (kf_ma (a := 27) kf (by decide)).1; omega) (kf_ma kf (by decide)).2.1 rfl (hC _) (hf_of hX (by decide) (by decide)) ?_
  refine j_putFR h hin d_Mod_init_137 fi_Mod_62 rfl ⟨rfl, rfl⟩ (vz_o (kf_mod kf).1 (by have := (kf_mod kf).2; omega)) ?_
  refine j_aload_n h d_Mod_init_140 rfl ?_
  refine j_bipush (v := nI 64) h d_Mod_init_141 (by decide +kernel) ?_
  refine z_newi (a := 28) (m := 64) h d_Mod_init_143 rfl (by decide) (kf_ma kf (by decide)).2.2 (by decide) rfl (by have := (kf_ma (a := 28) kf (by decide)).1; omega) (kf_ma kf (by decide)).2.1 rfl (hC _) (hf_of hX (by decide) (by decide)) ?_
  refine j_putFR h hin d_Mod_init_145 fi_Mod_65 rfl ⟨rfl, rfl⟩ (vz_o (kf_mod kf).1 (by have := (kf_mod kf).2; omega)) ?_
  refine j_aload_n h d_Mod_init_148 rfl ?_
  refine j_bipush (v := nI 64) h d_Mod_init_149 (by decide +kernel) ?_
  refine z_newz (a := 29) (m := 64) h d_Mod_init_151 rfl (by decide) (kf_ma kf (by decide)).2.2 (by decide) rfl (by have := (kf_ma (a := 29) kf (by decide)).1; omega) (kf_ma kf (by decide)).2.1 rfl (hC _) (hf_of hX (by decide) (by decide)) ?_
  refine j_putFR h hin d_Mod_init_153 fi_Mod_68 rfl ⟨rfl, rfl⟩ (vz_o (kf_mod kf).1 (by have := (kf_mod kf).2; omega)) ?_
  refine j_aload_n h d_Mod_init_156 rfl ?_
  refine j_bipush (v := nI 64) h d_Mod_init_157 (by decide +kernel) ?_
  refine z_newz (a := 30) (m := 64) h d_Mod_init_159 rfl (by decide) (kf_ma kf (by decide)).2.2 (by decide) rfl (by have := (kf_ma (a := 30) kf (by decide)).1; omega) (kf_ma kf (by decide)).2.1 rfl (hC _) (hf_of hX (by decide) (by decide)) ?_
  refine j_putFR h hin d_Mod_init_161 fi_Mod_71 rfl ⟨rfl, rfl⟩ (vz_o (kf_mod kf).1 (by have := (kf_mod kf).2; omega)) ?_
  refine j_aload_n h d_Mod_init_164 rfl ?_
  refine j_bipush (v := nI 16) h d_Mod_init_165 (by decide +kernel) ?_
  refine z_newi (a := 31) (m := 16) h d_Mod_init_167 rfl (by decide) (kf_ma kf (by decide)).2.2 (by decide) rfl (by have := (kf_ma (a := 31) kf (by decide)).1; omega) (kf_ma kf (by decide)).2.1 rfl (hC _) (hf_of hX (by decide) (by decide)) ?_
  refine j_putFR h hin d_Mod_init_169 fi_Mod_74 rfl ⟨rfl, rfl⟩ (vz_o (kf_mod kf).1 (by have := (kf_mod kf).2; omega)) ?_
  refine j_aload_n h d_Mod_init_172 rfl ?_
  refine j_bipush (v := nI 16) h d_Mod_init_173 (by decide +kernel) ?_
  refine z_newi (a := 32) (m := 16) h d_Mod_init_175 rfl (by decide) (kf_ma kf (by decide)).2.2 (by decide) rfl (by have := (kf_ma (a := 32) kf (by decide)).1; omega) (kf_ma kf (by decide)).2.1 rfl (hC _) (hf_of hX (by decide) (by decide)) ?_
  refine j_putFR h hin d_Mod_init_177 fi_Mod_77 rfl ⟨rfl, rfl⟩ (vz_o (kf_mod kf).1 (by have := (kf_mod kf).2; omega)) ?_
  refine j_aload_n h d_Mod_init_180 rfl ?_
  refine j_bipush (v := nI 16) h d_Mod_init_181 (by decide +kernel) ?_
  refine z_newi (a := 33) (m := 16) h d_Mod_init_183 rfl (by decide) (kf_ma kf (by decide)).2.2 (by decide) rfl (by have := (kf_ma (a := 33) kf (by decide)).1; omega) (kf_ma kf (by decide)).2.1 rfl (hC _) (hf_of hX (by decide) (by decide)) ?_
  refine j_putFR h hin d_Mod_init_185 fi_Mod_80 rfl ⟨rfl, rfl⟩ (vz_o (kf_mod kf).1 (by have := (kf_mod kf).2; omega)) ?_
  refine j_aload_n h d_Mod_init_188 rfl ?_
  refine j_bipush (v := nI 16) h d_Mod_init_189 (by decide +kernel) ?_
  refine z_newi (a := 34) (m := 16) h d_Mod_init_191 rfl (by decide) (kf_ma kf (by decide)).2.2 (by decide) rfl (by have := (kf_ma (a := 34) kf (by decide)).1; omega) (kf_ma kf (by decide)).2.1 rfl (hC _) (hf_of hX (by decide) (by decide)) ?_
  refine j_putFR h hin d_Mod_init_193 fi_Mod_83 rfl ⟨rfl, rfl⟩ (vz_o (kf_mod kf).1 (by have := (kf_mod kf).2; omega)) ?_
  refine j_aload_n h d_Mod_init_196 rfl ?_
  refine j_sipush (v := nI 4200) h d_Mod_init_197 (by decide +kernel) ?_
  refine z_newi (a := 35) (m := 4200) h d_Mod_init_200 rfl (by decide) (kf_ma kf (by decide)).2.2 (by decide) rfl (by have := (kf_ma (a := 35) kf (by decide)).1; omega) (kf_ma kf (by decide)).2.1 rfl (hD _) (hf_of hX (by decide) (by decide)) ?_
  refine j_putFR h hin d_Mod_init_202 fi_Mod_86 rfl ⟨rfl, rfl⟩ (vz_o (kf_mod kf).1 (by have := (kf_mod kf).2; omega)) ?_
  refine j_aload_n h d_Mod_init_205 rfl ?_
  refine j_sipush (v := nI 4200) h d_Mod_init_206 (by decide +kernel) ?_
  refine z_newi (a := 36) (m := 4200) h d_Mod_init_209 rfl (by decide) (kf_ma kf (by decide)).2.2 (by decide) rfl (by have := (kf_ma (a := 36) kf (by decide)).1; omega) (kf_ma kf (by decide)).2.1 rfl (hD _) (hf_of hX (by decide) (by decide)) ?_
  refine j_putFR h hin d_Mod_init_211 fi_Mod_89 rfl ⟨rfl, rfl⟩ (vz_o (kf_mod kf).1 (by have := (kf_mod kf).2; omega)) ?_
  refine j_aload_n h d_Mod_init_214 rfl ?_
  refine j_bipush (v := nI 14) h d_Mod_init_215 (by decide +kernel) ?_
  refine z_newi (a := 37) (m := 14) h d_Mod_init_217 rfl (by decide) (kf_ma kf (by decide)).2.2 (by decide) rfl (by have := (kf_ma (a := 37) kf (by decide)).1; omega) (kf_ma kf (by decide)).2.1 rfl (hD _) (hf_of hX (by decide) (by decide)) ?_
  refine j_putFR h hin d_Mod_init_219 fi_Mod_92 rfl ⟨rfl, rfl⟩ (vz_o (kf_mod kf).1 (by have := (kf_mod kf).2; omega)) ?_
  refine j_aload_n h d_Mod_init_222 rfl ?_
  refine j_bipush (v := nI 14) h d_Mod_init_223 (by decide +kernel) ?_
  refine z_newi (a := 38) (m := 14) h d_Mod_init_225 rfl (by decide) (kf_ma kf (by decide)).2.2 (by decide) rfl (by have := (kf_ma (a := 38) kf (by decide)).1; omega) (kf_ma kf (by decide)).2.1 rfl (hD _) (hf_of hX (by decide) (by decide)) ?_
  refine j_putFR h hin d_Mod_init_227 fi_Mod_95 rfl ⟨rfl, rfl⟩ (vz_o (kf_mod kf).1 (by have := (kf_mod kf).2; omega)) ?_
  refine j_V (congrArg (Vz K) (show _ = K.base + 657 + 2 * n by omega)) ?_
  refine j_widen (k := 29) (n := 9340) (by decide) (by decide) ?_
  exact h230
