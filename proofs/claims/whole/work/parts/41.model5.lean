/-! the model: new leases, hellos -/
section HNW
variable {C C' : MI} {s a n : Nat} {ld t : Int32} {x : Msg} {N : List Msg}
theorem hnw_f (e : lsdTo C s (x 2) t n 0 = nI a) (ha : a < 2 ^ 31) : hnwA C s n ld t x = hrnA C s a ld t x ∧ hnwN C s n ld t x N = hrnN C s a ld t x N := by
  unfold hnwA hnwN
  rw [e, if_neg (nI_m1 ha), if_neg (nI_m1 ha), nI_clamp ha]
  exact ⟨rfl, rfl⟩
theorem hnw_n (e : lsdTo C s (x 2) t n 0 = -1) (e2 : lstOwn C s n 0 = -1) (h : ¬ C 0 s = 0) : hnwA C s n ld t x = C ∧ hnwN C s n ld t x N = netput (m_ans s (x 2) (x 5) 0 (-1) 0) N := by
  unfold hnwA hnwN lnwA fA fN fA
  rw [e, e2]
  simp [h]
theorem hnw_y (e : lsdTo C s (x 2) t n 0 = -1) (e2 : lstOwn C s n 0 = nI a) (ha : a < 2 ^ 31) (e3 : lsNew C (32 * s + a) s ld t (x 2) (x 6) (x 5) = C') : hnwA C s n ld t x = wr C' s := by
  unfold hnwA lnwA fA
  rw [e, e2, if_pos rfl, if_neg (nI_m1 ha), if_neg (nI_m1 ha), nI_clamp ha, e3]
theorem hnw_yN (e : lsdTo C s (x 2) t n 0 = -1) (e2 : lstOwn C s n 0 = nI a) (ha : a < 2 ^ 31) (e3 : lsNew C (32 * s + a) s ld t (x 2) (x 6) (x 5) = C') : hnwN C s n ld t x N = if wr C' s 0 s = 0 then N else netput (m_ans s (x 2) (x 5) 1 (nI a) (C' 12 (32 * s + a))) N := by
  unfold hnwN lnwA fN fA
  rw [e, e2, if_pos rfl, if_neg (nI_m1 ha), if_neg (nI_m1 ha), if_neg (nI_m1 ha), nI_clamp ha, e3, wr_c C' s 12 _ (by decide)]
end HNW
theorem chg_15 (A : MI) (r : Nat) : chg A r 15 r = A 15 r + 1 := by simp [chg, up_rd]
theorem nI_p1 (k : Nat) : nI (k + 1) - 1 = nI k := by
  rw [← nI_i]
  exact Int32.add_sub_cancel _ _
theorem nI_n0 {k : Nat} (h : k < 2 ^ 31) : ¬ nI k < 0 := fun z => absurd ((nI_ltI (b := 0) h (by decide)).mp z) (by omega)
section JMEM
variable {X : Jx} {K : Kx} {V : Vx} {A B C C' D : MI} {P : MP} {cells slots pc : Nat} {lv : List (Nat × Value)} {st : List Value}
theorem j_mem (e : C' = C) (k : J X K V (bk4 A B C' D) P cells slots pc lv st) : J X K V (bk4 A B C D) P cells slots pc lv st := by rw [e] at k; exact k
end JMEM
theorem nI_ge0 {k : Nat} (h : k < 2 ^ 31) : (0 : Int32) ≤ nI k := nI_le (a := 0) (Nat.zero_le _) h
theorem d_Mod_hearNew_0 : decode b_Mod_hearNew 0 = .ok (.aload_n 0, 1) := by decide +kernel
theorem d_Mod_hearNew_1 : decode b_Mod_hearNew 1 = .ok (.iload_n 1, 1) := by decide +kernel
theorem d_Mod_hearNew_2 : decode b_Mod_hearNew 2 = .ok (.invokevirtual 128, 3) := by decide +kernel
theorem d_Mod_hearNew_5 : decode b_Mod_hearNew 5 = .ok (.istore 5, 2) := by decide +kernel
theorem d_Mod_hearNew_7 : decode b_Mod_hearNew 7 = .ok (.iconst (-1), 1) := by decide +kernel
theorem d_Mod_hearNew_8 : decode b_Mod_hearNew 8 = .ok (.istore 6, 2) := by decide +kernel
theorem d_Mod_hearNew_10 : decode b_Mod_hearNew 10 = .ok (.aload_n 0, 1) := by decide +kernel
theorem d_Mod_hearNew_11 : decode b_Mod_hearNew 11 = .ok (.getfield 98, 3) := by decide +kernel
theorem d_Mod_hearNew_14 : decode b_Mod_hearNew 14 = .ok (.iconst 1, 1) := by decide +kernel
theorem d_Mod_hearNew_15 : decode b_Mod_hearNew 15 = .ok (.isub, 1) := by decide +kernel
theorem d_Mod_hearNew_16 : decode b_Mod_hearNew 16 = .ok (.istore 7, 2) := by decide +kernel
theorem d_Mod_hearNew_18 : decode b_Mod_hearNew 18 = .ok (.iload 7, 2) := by decide +kernel
theorem d_Mod_hearNew_20 : decode b_Mod_hearNew 20 = .ok (.ifCond .lt 34, 3) := by decide +kernel
theorem d_Mod_hearNew_23 : decode b_Mod_hearNew 23 = .ok (.aload_n 0, 1) := by decide +kernel
theorem d_Mod_hearNew_24 : decode b_Mod_hearNew 24 = .ok (.getfield 34, 3) := by decide +kernel
theorem d_Mod_hearNew_27 : decode b_Mod_hearNew 27 = .ok (.bipush 32, 2) := by decide +kernel
theorem d_Mod_hearNew_29 : decode b_Mod_hearNew 29 = .ok (.iload_n 1, 1) := by decide +kernel
theorem d_Mod_hearNew_30 : decode b_Mod_hearNew 30 = .ok (.imul, 1) := by decide +kernel
theorem d_Mod_hearNew_31 : decode b_Mod_hearNew 31 = .ok (.iload 7, 2) := by decide +kernel
theorem d_Mod_hearNew_33 : decode b_Mod_hearNew 33 = .ok (.iadd, 1) := by decide +kernel
theorem d_Mod_hearNew_34 : decode b_Mod_hearNew 34 = .ok (.iaload, 1) := by decide +kernel
theorem d_Mod_hearNew_35 : decode b_Mod_hearNew 35 = .ok (.iconst 1, 1) := by decide +kernel
theorem d_Mod_hearNew_36 : decode b_Mod_hearNew 36 = .ok (.if_icmp .ne 8, 3) := by decide +kernel
theorem d_Mod_hearNew_39 : decode b_Mod_hearNew 39 = .ok (.iload 7, 2) := by decide +kernel
theorem d_Mod_hearNew_41 : decode b_Mod_hearNew 41 = .ok (.goto 5, 3) := by decide +kernel
theorem d_Mod_hearNew_44 : decode b_Mod_hearNew 44 = .ok (.iload 6, 2) := by decide +kernel
theorem d_Mod_hearNew_46 : decode b_Mod_hearNew 46 = .ok (.istore 6, 2) := by decide +kernel
theorem d_Mod_hearNew_48 : decode b_Mod_hearNew 48 = .ok (.iinc 7 (-1), 3) := by decide +kernel
theorem d_Mod_hearNew_51 : decode b_Mod_hearNew 51 = .ok (.goto (-33), 3) := by decide +kernel
theorem d_Mod_hearNew_54 : decode b_Mod_hearNew 54 = .ok (.iconst 0, 1) := by decide +kernel
theorem d_Mod_hearNew_55 : decode b_Mod_hearNew 55 = .ok (.istore 7, 2) := by decide +kernel
theorem d_Mod_hearNew_57 : decode b_Mod_hearNew 57 = .ok (.iload 7, 2) := by decide +kernel
theorem d_Mod_hearNew_59 : decode b_Mod_hearNew 59 = .ok (.aload_n 0, 1) := by decide +kernel
theorem d_Mod_hearNew_60 : decode b_Mod_hearNew 60 = .ok (.getfield 98, 3) := by decide +kernel
theorem d_Mod_hearNew_63 : decode b_Mod_hearNew 63 = .ok (.if_icmp .ge 64, 3) := by decide +kernel
theorem d_Mod_hearNew_66 : decode b_Mod_hearNew 66 = .ok (.bipush 32, 2) := by decide +kernel
theorem d_Mod_hearNew_68 : decode b_Mod_hearNew 68 = .ok (.iload_n 1, 1) := by decide +kernel
theorem d_Mod_hearNew_69 : decode b_Mod_hearNew 69 = .ok (.imul, 1) := by decide +kernel
theorem d_Mod_hearNew_70 : decode b_Mod_hearNew 70 = .ok (.iload 7, 2) := by decide +kernel
theorem d_Mod_hearNew_72 : decode b_Mod_hearNew 72 = .ok (.iadd, 1) := by decide +kernel
theorem d_Mod_hearNew_73 : decode b_Mod_hearNew 73 = .ok (.istore 8, 2) := by decide +kernel
theorem d_Mod_hearNew_75 : decode b_Mod_hearNew 75 = .ok (.aload_n 0, 1) := by decide +kernel
theorem d_Mod_hearNew_76 : decode b_Mod_hearNew 76 = .ok (.getfield 34, 3) := by decide +kernel
theorem d_Mod_hearNew_79 : decode b_Mod_hearNew 79 = .ok (.iload 8, 2) := by decide +kernel
theorem d_Mod_hearNew_81 : decode b_Mod_hearNew 81 = .ok (.iaload, 1) := by decide +kernel
theorem d_Mod_hearNew_82 : decode b_Mod_hearNew 82 = .ok (.iconst 2, 1) := by decide +kernel
theorem d_Mod_hearNew_83 : decode b_Mod_hearNew 83 = .ok (.if_icmp .ne 38, 3) := by decide +kernel
theorem d_Mod_hearNew_86 : decode b_Mod_hearNew 86 = .ok (.aload_n 0, 1) := by decide +kernel
theorem d_Mod_hearNew_87 : decode b_Mod_hearNew 87 = .ok (.getfield 37, 3) := by decide +kernel
theorem d_Mod_hearNew_90 : decode b_Mod_hearNew 90 = .ok (.iload 8, 2) := by decide +kernel
theorem d_Mod_hearNew_92 : decode b_Mod_hearNew 92 = .ok (.iaload, 1) := by decide +kernel
theorem d_Mod_hearNew_93 : decode b_Mod_hearNew 93 = .ok (.iload_n 2, 1) := by decide +kernel
theorem d_Mod_hearNew_94 : decode b_Mod_hearNew 94 = .ok (.if_icmp .ne 27, 3) := by decide +kernel
theorem d_Mod_hearNew_97 : decode b_Mod_hearNew 97 = .ok (.aload_n 0, 1) := by decide +kernel
theorem d_Mod_hearNew_98 : decode b_Mod_hearNew 98 = .ok (.getfield 40, 3) := by decide +kernel
theorem d_Mod_hearNew_101 : decode b_Mod_hearNew 101 = .ok (.iload 8, 2) := by decide +kernel
theorem d_Mod_hearNew_103 : decode b_Mod_hearNew 103 = .ok (.iaload, 1) := by decide +kernel
theorem d_Mod_hearNew_104 : decode b_Mod_hearNew 104 = .ok (.iload 5, 2) := by decide +kernel
theorem d_Mod_hearNew_106 : decode b_Mod_hearNew 106 = .ok (.if_icmp .le 15, 3) := by decide +kernel
theorem d_Mod_hearNew_109 : decode b_Mod_hearNew 109 = .ok (.aload_n 0, 1) := by decide +kernel
theorem d_Mod_hearNew_110 : decode b_Mod_hearNew 110 = .ok (.iload_n 1, 1) := by decide +kernel
theorem d_Mod_hearNew_111 : decode b_Mod_hearNew 111 = .ok (.iload_n 2, 1) := by decide +kernel
theorem d_Mod_hearNew_112 : decode b_Mod_hearNew 112 = .ok (.iload 7, 2) := by decide +kernel
theorem d_Mod_hearNew_114 : decode b_Mod_hearNew 114 = .ok (.iload_n 3, 1) := by decide +kernel
theorem d_Mod_hearNew_115 : decode b_Mod_hearNew 115 = .ok (.iload 4, 2) := by decide +kernel
theorem d_Mod_hearNew_117 : decode b_Mod_hearNew 117 = .ok (.invokevirtual 132, 3) := by decide +kernel
theorem d_Mod_hearNew_120 : decode b_Mod_hearNew 120 = .ok (.return_, 1) := by decide +kernel
theorem d_Mod_hearNew_121 : decode b_Mod_hearNew 121 = .ok (.iinc 7 1, 3) := by decide +kernel
theorem d_Mod_hearNew_124 : decode b_Mod_hearNew 124 = .ok (.goto (-67), 3) := by decide +kernel
theorem d_Mod_hearNew_127 : decode b_Mod_hearNew 127 = .ok (.iload 6, 2) := by decide +kernel
theorem d_Mod_hearNew_129 : decode b_Mod_hearNew 129 = .ok (.ifCond .ge 14, 3) := by decide +kernel
theorem d_Mod_hearNew_132 : decode b_Mod_hearNew 132 = .ok (.aload_n 0, 1) := by decide +kernel
theorem d_Mod_hearNew_133 : decode b_Mod_hearNew 133 = .ok (.iload_n 1, 1) := by decide +kernel
theorem d_Mod_hearNew_134 : decode b_Mod_hearNew 134 = .ok (.iload_n 2, 1) := by decide +kernel
theorem d_Mod_hearNew_135 : decode b_Mod_hearNew 135 = .ok (.iconst 0, 1) := by decide +kernel
theorem d_Mod_hearNew_136 : decode b_Mod_hearNew 136 = .ok (.iconst 0, 1) := by decide +kernel
theorem d_Mod_hearNew_137 : decode b_Mod_hearNew 137 = .ok (.iload_n 3, 1) := by decide +kernel
theorem d_Mod_hearNew_138 : decode b_Mod_hearNew 138 = .ok (.iconst 0, 1) := by decide +kernel
theorem d_Mod_hearNew_139 : decode b_Mod_hearNew 139 = .ok (.invokevirtual 136, 3) := by decide +kernel
theorem d_Mod_hearNew_142 : decode b_Mod_hearNew 142 = .ok (.return_, 1) := by decide +kernel
theorem d_Mod_hearNew_143 : decode b_Mod_hearNew 143 = .ok (.bipush 32, 2) := by decide +kernel
theorem d_Mod_hearNew_145 : decode b_Mod_hearNew 145 = .ok (.iload_n 1, 1) := by decide +kernel
theorem d_Mod_hearNew_146 : decode b_Mod_hearNew 146 = .ok (.imul, 1) := by decide +kernel
theorem d_Mod_hearNew_147 : decode b_Mod_hearNew 147 = .ok (.iload 6, 2) := by decide +kernel
theorem d_Mod_hearNew_149 : decode b_Mod_hearNew 149 = .ok (.iadd, 1) := by decide +kernel
theorem d_Mod_hearNew_150 : decode b_Mod_hearNew 150 = .ok (.istore 7, 2) := by decide +kernel
theorem d_Mod_hearNew_152 : decode b_Mod_hearNew 152 = .ok (.iload 5, 2) := by decide +kernel
theorem d_Mod_hearNew_154 : decode b_Mod_hearNew 154 = .ok (.iload 4, 2) := by decide +kernel
theorem d_Mod_hearNew_156 : decode b_Mod_hearNew 156 = .ok (.iadd, 1) := by decide +kernel
theorem d_Mod_hearNew_157 : decode b_Mod_hearNew 157 = .ok (.istore 8, 2) := by decide +kernel
theorem d_Mod_hearNew_159 : decode b_Mod_hearNew 159 = .ok (.aload_n 0, 1) := by decide +kernel
theorem d_Mod_hearNew_160 : decode b_Mod_hearNew 160 = .ok (.getfield 7, 3) := by decide +kernel
theorem d_Mod_hearNew_163 : decode b_Mod_hearNew 163 = .ok (.iload_n 1, 1) := by decide +kernel
theorem d_Mod_hearNew_164 : decode b_Mod_hearNew 164 = .ok (.iaload, 1) := by decide +kernel
theorem d_Mod_hearNew_165 : decode b_Mod_hearNew 165 = .ok (.iconst 2, 1) := by decide +kernel
theorem d_Mod_hearNew_166 : decode b_Mod_hearNew 166 = .ok (.if_icmp .ne 32, 3) := by decide +kernel
theorem d_Mod_hearNew_169 : decode b_Mod_hearNew 169 = .ok (.iload 8, 2) := by decide +kernel
theorem d_Mod_hearNew_171 : decode b_Mod_hearNew 171 = .ok (.iload 5, 2) := by decide +kernel
theorem d_Mod_hearNew_173 : decode b_Mod_hearNew 173 = .ok (.aload_n 0, 1) := by decide +kernel
theorem d_Mod_hearNew_174 : decode b_Mod_hearNew 174 = .ok (.getfield 102, 3) := by decide +kernel
theorem d_Mod_hearNew_177 : decode b_Mod_hearNew 177 = .ok (.iadd, 1) := by decide +kernel
theorem d_Mod_hearNew_178 : decode b_Mod_hearNew 178 = .ok (.if_icmp .ge 8, 3) := by decide +kernel
theorem d_Mod_hearNew_181 : decode b_Mod_hearNew 181 = .ok (.iload 8, 2) := by decide +kernel
theorem d_Mod_hearNew_183 : decode b_Mod_hearNew 183 = .ok (.goto 10, 3) := by decide +kernel
theorem d_Mod_hearNew_186 : decode b_Mod_hearNew 186 = .ok (.iload 5, 2) := by decide +kernel
theorem d_Mod_hearNew_188 : decode b_Mod_hearNew 188 = .ok (.aload_n 0, 1) := by decide +kernel
theorem d_Mod_hearNew_189 : decode b_Mod_hearNew 189 = .ok (.getfield 102, 3) := by decide +kernel
theorem d_Mod_hearNew_192 : decode b_Mod_hearNew 192 = .ok (.iadd, 1) := by decide +kernel
theorem d_Mod_hearNew_193 : decode b_Mod_hearNew 193 = .ok (.istore 8, 2) := by decide +kernel
theorem d_Mod_hearNew_195 : decode b_Mod_hearNew 195 = .ok (.goto 11, 3) := by decide +kernel
theorem d_Mod_hearNew_198 : decode b_Mod_hearNew 198 = .ok (.aload_n 0, 1) := by decide +kernel
theorem d_Mod_hearNew_199 : decode b_Mod_hearNew 199 = .ok (.getfield 68, 3) := by decide +kernel
theorem d_Mod_hearNew_202 : decode b_Mod_hearNew 202 = .ok (.iload 7, 2) := by decide +kernel
theorem d_Mod_hearNew_204 : decode b_Mod_hearNew 204 = .ok (.iconst 1, 1) := by decide +kernel
theorem d_Mod_hearNew_205 : decode b_Mod_hearNew 205 = .ok (.bastore, 1) := by decide +kernel
theorem d_Mod_hearNew_206 : decode b_Mod_hearNew 206 = .ok (.aload_n 0, 1) := by decide +kernel
theorem d_Mod_hearNew_207 : decode b_Mod_hearNew 207 = .ok (.iload 7, 2) := by decide +kernel
theorem d_Mod_hearNew_209 : decode b_Mod_hearNew 209 = .ok (.invokevirtual 140, 3) := by decide +kernel
theorem d_Mod_hearNew_212 : decode b_Mod_hearNew 212 = .ok (.aload_n 0, 1) := by decide +kernel
theorem d_Mod_hearNew_213 : decode b_Mod_hearNew 213 = .ok (.iload 7, 2) := by decide +kernel
theorem d_Mod_hearNew_215 : decode b_Mod_hearNew 215 = .ok (.iload_n 2, 1) := by decide +kernel
theorem d_Mod_hearNew_216 : decode b_Mod_hearNew 216 = .ok (.iload 8, 2) := by decide +kernel
theorem d_Mod_hearNew_218 : decode b_Mod_hearNew 218 = .ok (.iload_n 3, 1) := by decide +kernel
theorem d_Mod_hearNew_219 : decode b_Mod_hearNew 219 = .ok (.invokevirtual 143, 3) := by decide +kernel
theorem d_Mod_hearNew_222 : decode b_Mod_hearNew 222 = .ok (.aload_n 0, 1) := by decide +kernel
theorem d_Mod_hearNew_223 : decode b_Mod_hearNew 223 = .ok (.iload_n 1, 1) := by decide +kernel
theorem d_Mod_hearNew_224 : decode b_Mod_hearNew 224 = .ok (.invokevirtual 147, 3) := by decide +kernel
theorem d_Mod_hearNew_227 : decode b_Mod_hearNew 227 = .ok (.ifCond .eq 15, 3) := by decide +kernel
theorem d_Mod_hearNew_230 : decode b_Mod_hearNew 230 = .ok (.aload_n 0, 1) := by decide +kernel
theorem d_Mod_hearNew_231 : decode b_Mod_hearNew 231 = .ok (.iload_n 1, 1) := by decide +kernel
theorem d_Mod_hearNew_232 : decode b_Mod_hearNew 232 = .ok (.iload_n 2, 1) := by decide +kernel
theorem d_Mod_hearNew_233 : decode b_Mod_hearNew 233 = .ok (.iconst 1, 1) := by decide +kernel
theorem d_Mod_hearNew_234 : decode b_Mod_hearNew 234 = .ok (.iload 6, 2) := by decide +kernel
theorem d_Mod_hearNew_236 : decode b_Mod_hearNew 236 = .ok (.iload_n 3, 1) := by decide +kernel
theorem d_Mod_hearNew_237 : decode b_Mod_hearNew 237 = .ok (.iload 8, 2) := by decide +kernel
theorem d_Mod_hearNew_239 : decode b_Mod_hearNew 239 = .ok (.invokevirtual 136, 3) := by decide +kernel
theorem d_Mod_hearNew_242 : decode b_Mod_hearNew 242 = .ok (.return_, 1) := by decide +kernel
set_option maxRecDepth 100000 in
set_option maxHeartbeats 4000000 in
theorem c_Mod_hearNew (l : Launch) (K : Kx) (V : Vx) (A B C D : MI) (P : MP) (ms : MSt K V P) (s : Nat) (hs : s < 2) (n : Nat) (ld sk : Int32) (hf : MF C n ld sk) (N : List Msg) (hm : MN D N) (x : Msg) (h0 : ¬ C 0 s = 0) : Ct l K md_Mod_hearNew (4, 99) 0 0 [.ref (K.ad 6 0), .int (nI s), .int (x 2), .int (x 5), .int (x 6)] V (bk4 A B C D) P (MQ_ V A B P none (hnwA C s n ld (clk C s) x) D (hnwN C s n ld (clk C s) x N)) := by
  refine ct_of [(0, .ref (K.ad 6 0)), (1, .int (nI s)), (2, .int (x 2)), (3, .int (x 5)), (4, .int (x 6))] (by decide) (Nat.le_of_ble_eq_true rfl) (ca_r (ca_i (ca_i (ca_i (ca_i ca_n))))) rfl ?_
  intro X hl hX
  have h : OkX X b_Mod_hearNew R_Mod K := hX.1
  have hN : X.nL = 9 := hX.2.1
  have hmv := ms.1
  obtain ⟨hn32, h42, h43, h44⟩ := hf
  have hL2 : ∀ (k j : Nat) , j + k = n → lsdTo C s (x 2) (clk C s) n 0 = lsdTo C s (x 2) (clk C s) k j → J X K V (bk4 A B C D) P 0 0 57 [(0, .ref (K.ad 6 0)), (1, .int (nI s)), (2, .int (x 2)), (3, .int (x 5)), (4, .int (x 6)), (5, .int (clk C s)), (6, .int (lstOwn C s n 0)), (7, .int (nI j))] [] := by
    intro k
    induction k with
    | zero =>
      intro j  hi hv
      have hi2 : n = j := by omega
      subst hi2
      refine j_iload h d_Mod_hearNew_57 rfl ?_
      refine j_aload_n h d_Mod_hearNew_59 rfl ?_
      refine j_get2e (v := nI n) h d_Mod_hearNew_60 fl_Mod_98 rfl (by assumption) (by first | exact h42 | simpa [up_rd] using h42) ?_
      refine j_ic_ge (tgt := 127) h d_Mod_hearNew_63 (by decide) (fun _ => ?_) (fun c => absurd (nI_le (Nat.le_refl _) (by omega)) c)
      have hv : lsdTo C s (x 2) (clk C s) n 0 = -1 := hv
      have hL1 : True := trivial
      rcases lstOwn_c C s n 0 with hO | ⟨a, ha, hO, -⟩
      · rw [hO]
        refine j_iload h d_Mod_hearNew_127 rfl ?_
        refine j_if_ge (tgt := 143) h d_Mod_hearNew_129 (by decide) (fun c1 => absurd c1 (by decide)) (fun c1 => ?_)
        refine j_aload_n h d_Mod_hearNew_132 rfl ?_
        refine j_iload_n h d_Mod_hearNew_133 rfl ?_
        refine j_iload_n h d_Mod_hearNew_134 rfl ?_
        refine j_iconst (v := 0) h d_Mod_hearNew_135 (by decide) ?_
        refine j_iconst (v := 0) h d_Mod_hearNew_136 (by decide) ?_
        refine j_iload_n h d_Mod_hearNew_137 rfl ?_
        refine j_iconst (v := 0) h d_Mod_hearNew_138 (by decide) ?_
        refine j_callV h (c_Mod_answer_no _ _ _ _ _ _ _ _ ms _ hm _ hs _ _ _ _) d_Mod_hearNew_139 ml_Mod_136 mv_Mod_answer (by assumption) ⟨rfl, rfl⟩ rfl rfl (Nat.le_of_ble_eq_true rfl) (hR_of hX (by decide) (by decide)) (hf_of hX (by decide) (by decide)) ?_
        rintro V3 _ _ P3 ⟨rfl, rfl, rfl, D3, rfl, hk3, hm3⟩
        exact j_vret hX d_Mod_hearNew_142 rfl (Nat.le_refl _) (Nat.le_refl _) ⟨rfl, rfl, rfl, D3, by rw [(hnw_n (ld := ld) (N := N) hv hO h0).1], hk3, by rw [(hnw_n (ld := ld) (N := N) hv hO h0).2]; exact hm3⟩
      · rw [hO]
        have ha : a < n := by omega
        refine j_iload h d_Mod_hearNew_127 rfl ?_
        refine j_if_ge (tgt := 143) h d_Mod_hearNew_129 (by decide) (fun _ => ?_) (fun c => absurd (nI_ge0 (by omega)) c)
        refine j_bipush (v := 32) h d_Mod_hearNew_143 (by decide) ?_
        refine j_iload_n h d_Mod_hearNew_145 rfl ?_
        refine j_imul h d_Mod_hearNew_146 ?_
        refine j_iload h d_Mod_hearNew_147 rfl ?_
        refine j_ix32 (s := s) (a := a) h d_Mod_hearNew_149 ?_
        refine j_istore h d_Mod_hearNew_150 (Nat.lt_of_lt_of_eq (m := 9) (by decide) hN.symm) ?_
        refine j_iload h d_Mod_hearNew_152 rfl ?_
        refine j_iload h d_Mod_hearNew_154 rfl ?_
        refine j_iadd h d_Mod_hearNew_156 ?_
        refine j_istore h d_Mod_hearNew_157 (Nat.lt_of_lt_of_eq (m := 9) (by decide) hN.symm) ?_
        refine j_aload_n h d_Mod_hearNew_159 rfl ?_
        refine j_getR h d_Mod_hearNew_160 fl_Mod_7 rfl (by assumption) (mP ms (a := 10) (by decide)) ?_
        refine j_iload_n h d_Mod_hearNew_163 rfl ?_
        refine m_iald2 (a := 10) (L := 2) (j := s) h ms d_Mod_hearNew_164 (by decide) rfl (by decide) rfl rfl (by omega) ?_
        refine j_iconst (v := 2) h d_Mod_hearNew_165 (by decide) ?_
        refine j_ic_ne (tgt := 198) h d_Mod_hearNew_166 (by decide) (fun c1 => ?_) (fun c1 => ?_)
        · refine j_aload_n h d_Mod_hearNew_198 rfl ?_
          refine j_getR h d_Mod_hearNew_199 fl_Mod_68 rfl (by assumption) (mP ms (a := 29) (by decide)) ?_
          refine j_iload h d_Mod_hearNew_202 rfl ?_
          refine j_iconst (v := 1) h d_Mod_hearNew_204 (by decide) ?_
          refine m_zast2 (a := 29) (L := 64) (j := (32 * s + a)) h ms d_Mod_hearNew_205 (by decide) rfl (by decide) rfl rfl (by omega) (by first | exact Or.inl rfl | exact Or.inr rfl | exact b01_z _ | assumption) ?_
          refine j_aload_n h d_Mod_hearNew_206 rfl ?_
          refine j_iload h d_Mod_hearNew_207 rfl ?_
          refine j_callV h (c_Mod_change _ _ _ _ _ _ _ _ ms _ (by omega)) d_Mod_hearNew_209 ml_Mod_140 mv_Mod_change (by assumption) ⟨rfl, rfl⟩ rfl rfl (Nat.le_of_ble_eq_true rfl) (hR_of hX (by decide) (by decide)) (hf_of hX (by decide) (by decide)) ?_
          rintro _ _ _ _ ⟨rfl, rfl, rfl, rfl⟩
          refine j_aload_n h d_Mod_hearNew_212 rfl ?_
          refine j_iload h d_Mod_hearNew_213 rfl ?_
          refine j_iload_n h d_Mod_hearNew_215 rfl ?_
          refine j_iload h d_Mod_hearNew_216 rfl ?_
          refine j_iload_n h d_Mod_hearNew_218 rfl ?_
          refine j_callV h (c_Mod_bind _ _ _ _ _ _ _ _ ms _ (by omega) _ _ _) d_Mod_hearNew_219 ml_Mod_143 mv_Mod_bind (by assumption) ⟨rfl, rfl⟩ rfl rfl (Nat.le_of_ble_eq_true rfl) (hR_of hX (by decide) (by decide)) (hf_of hX (by decide) (by decide)) ?_
          rintro _ _ _ _ ⟨rfl, rfl, rfl, rfl⟩
          obtain ⟨C9, hC9⟩ : ∃ C9, C9 = lsNew C (32 * s + a) s ld (clk C s) (x 2) (x 6) (x 5) := ⟨_, rfl⟩
          refine j_mem (C' := C9) (by rw [hC9]; unfold lsNew; first | (rw [if_pos (by assumption), chg_15]; done) | (rw [if_neg (by assumption), chg_15]; rfl)) ?_
          have e12 : C9 12 (32 * s + a) = (if C 0 s = 2 then ls_ (clk C s + x 6) (clk C s + ld) else clk C s + x 6) := by rw [hC9]; unfold lsNew; split <;> simp [bnd, up_rd]
          refine j_aload_n h d_Mod_hearNew_222 rfl ?_
          refine j_iload_n h d_Mod_hearNew_223 rfl ?_
          refine j_callV h (c_Mod_writes _ _ _ _ _ _ _ _ ms _ hs) d_Mod_hearNew_224 ml_Mod_147 mv_Mod_writes (by assumption) ⟨rfl, rfl⟩ rfl rfl (Nat.le_of_ble_eq_true rfl) (hR_of hX (by decide) (by decide)) (hf_of hX (by decide) (by decide)) ?_
          rintro _ _ _ _ ⟨rfl, rfl, rfl, rfl⟩
          refine j_if_eq (tgt := 242) h d_Mod_hearNew_227 (by decide) (fun c2 => ?_) (fun c2 => ?_)
          · exact j_vret hX d_Mod_hearNew_242 rfl (Nat.le_refl _) (Nat.le_refl _) ⟨rfl, rfl, rfl, _, by rw [hnw_y hv hO (by omega) hC9.symm], by first | exact hk3 | exact DK.refl _, by rw [hnw_yN hv hO (by omega) hC9.symm]; first | (rw [if_neg (b01_n0 (by assumption)), e12]; first | (rw [if_pos (by assumption)]; exact hm3) | (rw [if_neg (by assumption)]; exact hm3)) | (rw [if_pos (Decidable.byContradiction (b01_0.mp (by assumption)))]; exact hm)⟩
          · refine j_aload_n h d_Mod_hearNew_230 rfl ?_
            refine j_iload_n h d_Mod_hearNew_231 rfl ?_
            refine j_iload_n h d_Mod_hearNew_232 rfl ?_
            refine j_iconst (v := 1) h d_Mod_hearNew_233 (by decide) ?_
            refine j_iload h d_Mod_hearNew_234 rfl ?_
            refine j_iload_n h d_Mod_hearNew_236 rfl ?_
            refine j_iload h d_Mod_hearNew_237 rfl ?_
            refine j_callV h (c_Mod_answer_yes _ _ _ _ _ _ _ _ ms _ hm _ hs _ _ _ _) d_Mod_hearNew_239 ml_Mod_136 mv_Mod_answer (by assumption) ⟨rfl, rfl⟩ rfl rfl (Nat.le_of_ble_eq_true rfl) (hR_of hX (by decide) (by decide)) (hf_of hX (by decide) (by decide)) ?_
            rintro V3 _ _ P3 ⟨rfl, rfl, rfl, D3, rfl, hk3, hm3⟩
            exact j_vret hX d_Mod_hearNew_242 rfl (Nat.le_refl _) (Nat.le_refl _) ⟨rfl, rfl, rfl, _, by rw [hnw_y hv hO (by omega) hC9.symm], by first | exact hk3 | exact DK.refl _, by rw [hnw_yN hv hO (by omega) hC9.symm]; first | (rw [if_neg (b01_n0 (by assumption)), e12]; first | (rw [if_pos (by assumption)]; exact hm3) | (rw [if_neg (by assumption)]; exact hm3)) | (rw [if_pos (Decidable.byContradiction (b01_0.mp (by assumption)))]; exact hm)⟩
        · refine j_iload h d_Mod_hearNew_169 rfl ?_
          refine j_iload h d_Mod_hearNew_171 rfl ?_
          refine j_aload_n h d_Mod_hearNew_173 rfl ?_
          refine j_get2 h d_Mod_hearNew_174 fl_Mod_102 rfl (by assumption) ?_
          refine j_iadd h d_Mod_hearNew_177 ?_
          refine j_ic_ge (tgt := 186) h d_Mod_hearNew_178 (by decide) (fun c3 => ?_) (fun c3 => ?_)
          · refine j_iload h d_Mod_hearNew_186 rfl ?_
            refine j_aload_n h d_Mod_hearNew_188 rfl ?_
            refine j_get2 h d_Mod_hearNew_189 fl_Mod_102 rfl (by assumption) ?_
            refine j_iadd h d_Mod_hearNew_192 ?_
            refine j_int (v' := ls_ (clk C s + x 6) (clk C s + ld)) (by clear hX h hl hL1; first | (simp_all [ls_]; done) | grind [ls_]) ?_
            refine j_istore h d_Mod_hearNew_193 (Nat.lt_of_lt_of_eq (m := 9) (by decide) hN.symm) ?_
            refine j_goto (tgt := 206) h d_Mod_hearNew_195 (by decide) ?_
            refine j_aload_n h d_Mod_hearNew_206 rfl ?_
            refine j_iload h d_Mod_hearNew_207 rfl ?_
            refine j_callV h (c_Mod_change _ _ _ _ _ _ _ _ ms _ (by omega)) d_Mod_hearNew_209 ml_Mod_140 mv_Mod_change (by assumption) ⟨rfl, rfl⟩ rfl rfl (Nat.le_of_ble_eq_true rfl) (hR_of hX (by decide) (by decide)) (hf_of hX (by decide) (by decide)) ?_
            rintro _ _ _ _ ⟨rfl, rfl, rfl, rfl⟩
            refine j_aload_n h d_Mod_hearNew_212 rfl ?_
            refine j_iload h d_Mod_hearNew_213 rfl ?_
            refine j_iload_n h d_Mod_hearNew_215 rfl ?_
            refine j_iload h d_Mod_hearNew_216 rfl ?_
            refine j_iload_n h d_Mod_hearNew_218 rfl ?_
            refine j_callV h (c_Mod_bind _ _ _ _ _ _ _ _ ms _ (by omega) _ _ _) d_Mod_hearNew_219 ml_Mod_143 mv_Mod_bind (by assumption) ⟨rfl, rfl⟩ rfl rfl (Nat.le_of_ble_eq_true rfl) (hR_of hX (by decide) (by decide)) (hf_of hX (by decide) (by decide)) ?_
            rintro _ _ _ _ ⟨rfl, rfl, rfl, rfl⟩
            obtain ⟨C9, hC9⟩ : ∃ C9, C9 = lsNew C (32 * s + a) s ld (clk C s) (x 2) (x 6) (x 5) := ⟨_, rfl⟩
            refine j_mem (C' := C9) (by rw [hC9]; unfold lsNew; first | (rw [if_pos (by assumption), chg_15]; done) | (rw [if_neg (by assumption), chg_15]; rfl)) ?_
            have e12 : C9 12 (32 * s + a) = (if C 0 s = 2 then ls_ (clk C s + x 6) (clk C s + ld) else clk C s + x 6) := by rw [hC9]; unfold lsNew; split <;> simp [bnd, up_rd]
            refine j_aload_n h d_Mod_hearNew_222 rfl ?_
            refine j_iload_n h d_Mod_hearNew_223 rfl ?_
            refine j_callV h (c_Mod_writes _ _ _ _ _ _ _ _ ms _ hs) d_Mod_hearNew_224 ml_Mod_147 mv_Mod_writes (by assumption) ⟨rfl, rfl⟩ rfl rfl (Nat.le_of_ble_eq_true rfl) (hR_of hX (by decide) (by decide)) (hf_of hX (by decide) (by decide)) ?_
            rintro _ _ _ _ ⟨rfl, rfl, rfl, rfl⟩
            refine j_if_eq (tgt := 242) h d_Mod_hearNew_227 (by decide) (fun c4 => ?_) (fun c4 => ?_)
            · exact j_vret hX d_Mod_hearNew_242 rfl (Nat.le_refl _) (Nat.le_refl _) ⟨rfl, rfl, rfl, _, by rw [hnw_y hv hO (by omega) hC9.symm], by first | exact hk3 | exact DK.refl _, by rw [hnw_yN hv hO (by omega) hC9.symm]; first | (rw [if_neg (b01_n0 (by assumption)), e12]; first | (rw [if_pos (by assumption)]; exact hm3) | (rw [if_neg (by assumption)]; exact hm3)) | (rw [if_pos (Decidable.byContradiction (b01_0.mp (by assumption)))]; exact hm)⟩
            · refine j_aload_n h d_Mod_hearNew_230 rfl ?_
              refine j_iload_n h d_Mod_hearNew_231 rfl ?_
              refine j_iload_n h d_Mod_hearNew_232 rfl ?_
              refine j_iconst (v := 1) h d_Mod_hearNew_233 (by decide) ?_
              refine j_iload h d_Mod_hearNew_234 rfl ?_
              refine j_iload_n h d_Mod_hearNew_236 rfl ?_
              refine j_iload h d_Mod_hearNew_237 rfl ?_
              refine j_callV h (c_Mod_answer_yes _ _ _ _ _ _ _ _ ms _ hm _ hs _ _ _ _) d_Mod_hearNew_239 ml_Mod_136 mv_Mod_answer (by assumption) ⟨rfl, rfl⟩ rfl rfl (Nat.le_of_ble_eq_true rfl) (hR_of hX (by decide) (by decide)) (hf_of hX (by decide) (by decide)) ?_
              rintro V3 _ _ P3 ⟨rfl, rfl, rfl, D3, rfl, hk3, hm3⟩
              exact j_vret hX d_Mod_hearNew_242 rfl (Nat.le_refl _) (Nat.le_refl _) ⟨rfl, rfl, rfl, _, by rw [hnw_y hv hO (by omega) hC9.symm], by first | exact hk3 | exact DK.refl _, by rw [hnw_yN hv hO (by omega) hC9.symm]; first | (rw [if_neg (b01_n0 (by assumption)), e12]; first | (rw [if_pos (by assumption)]; exact hm3) | (rw [if_neg (by assumption)]; exact hm3)) | (rw [if_pos (Decidable.byContradiction (b01_0.mp (by assumption)))]; exact hm)⟩
          · refine j_iload h d_Mod_hearNew_181 rfl ?_
            refine j_goto (tgt := 193) h d_Mod_hearNew_183 (by decide) ?_
            refine j_int (v' := ls_ (clk C s + x 6) (clk C s + ld)) (by clear hX h hl hL1; first | (simp_all [ls_]; done) | grind [ls_]) ?_
            refine j_istore h d_Mod_hearNew_193 (Nat.lt_of_lt_of_eq (m := 9) (by decide) hN.symm) ?_
            refine j_goto (tgt := 206) h d_Mod_hearNew_195 (by decide) ?_
            refine j_aload_n h d_Mod_hearNew_206 rfl ?_
            refine j_iload h d_Mod_hearNew_207 rfl ?_
            refine j_callV h (c_Mod_change _ _ _ _ _ _ _ _ ms _ (by omega)) d_Mod_hearNew_209 ml_Mod_140 mv_Mod_change (by assumption) ⟨rfl, rfl⟩ rfl rfl (Nat.le_of_ble_eq_true rfl) (hR_of hX (by decide) (by decide)) (hf_of hX (by decide) (by decide)) ?_
            rintro _ _ _ _ ⟨rfl, rfl, rfl, rfl⟩
            refine j_aload_n h d_Mod_hearNew_212 rfl ?_
            refine j_iload h d_Mod_hearNew_213 rfl ?_
            refine j_iload_n h d_Mod_hearNew_215 rfl ?_
            refine j_iload h d_Mod_hearNew_216 rfl ?_
            refine j_iload_n h d_Mod_hearNew_218 rfl ?_
            refine j_callV h (c_Mod_bind _ _ _ _ _ _ _ _ ms _ (by omega) _ _ _) d_Mod_hearNew_219 ml_Mod_143 mv_Mod_bind (by assumption) ⟨rfl, rfl⟩ rfl rfl (Nat.le_of_ble_eq_true rfl) (hR_of hX (by decide) (by decide)) (hf_of hX (by decide) (by decide)) ?_
            rintro _ _ _ _ ⟨rfl, rfl, rfl, rfl⟩
            obtain ⟨C9, hC9⟩ : ∃ C9, C9 = lsNew C (32 * s + a) s ld (clk C s) (x 2) (x 6) (x 5) := ⟨_, rfl⟩
            refine j_mem (C' := C9) (by rw [hC9]; unfold lsNew; first | (rw [if_pos (by assumption), chg_15]; done) | (rw [if_neg (by assumption), chg_15]; rfl)) ?_
            have e12 : C9 12 (32 * s + a) = (if C 0 s = 2 then ls_ (clk C s + x 6) (clk C s + ld) else clk C s + x 6) := by rw [hC9]; unfold lsNew; split <;> simp [bnd, up_rd]
            refine j_aload_n h d_Mod_hearNew_222 rfl ?_
            refine j_iload_n h d_Mod_hearNew_223 rfl ?_
            refine j_callV h (c_Mod_writes _ _ _ _ _ _ _ _ ms _ hs) d_Mod_hearNew_224 ml_Mod_147 mv_Mod_writes (by assumption) ⟨rfl, rfl⟩ rfl rfl (Nat.le_of_ble_eq_true rfl) (hR_of hX (by decide) (by decide)) (hf_of hX (by decide) (by decide)) ?_
            rintro _ _ _ _ ⟨rfl, rfl, rfl, rfl⟩
            refine j_if_eq (tgt := 242) h d_Mod_hearNew_227 (by decide) (fun c5 => ?_) (fun c5 => ?_)
            · exact j_vret hX d_Mod_hearNew_242 rfl (Nat.le_refl _) (Nat.le_refl _) ⟨rfl, rfl, rfl, _, by rw [hnw_y hv hO (by omega) hC9.symm], by first | exact hk3 | exact DK.refl _, by rw [hnw_yN hv hO (by omega) hC9.symm]; first | (rw [if_neg (b01_n0 (by assumption)), e12]; first | (rw [if_pos (by assumption)]; exact hm3) | (rw [if_neg (by assumption)]; exact hm3)) | (rw [if_pos (Decidable.byContradiction (b01_0.mp (by assumption)))]; exact hm)⟩
            · refine j_aload_n h d_Mod_hearNew_230 rfl ?_
              refine j_iload_n h d_Mod_hearNew_231 rfl ?_
              refine j_iload_n h d_Mod_hearNew_232 rfl ?_
              refine j_iconst (v := 1) h d_Mod_hearNew_233 (by decide) ?_
              refine j_iload h d_Mod_hearNew_234 rfl ?_
              refine j_iload_n h d_Mod_hearNew_236 rfl ?_
              refine j_iload h d_Mod_hearNew_237 rfl ?_
              refine j_callV h (c_Mod_answer_yes _ _ _ _ _ _ _ _ ms _ hm _ hs _ _ _ _) d_Mod_hearNew_239 ml_Mod_136 mv_Mod_answer (by assumption) ⟨rfl, rfl⟩ rfl rfl (Nat.le_of_ble_eq_true rfl) (hR_of hX (by decide) (by decide)) (hf_of hX (by decide) (by decide)) ?_
              rintro V3 _ _ P3 ⟨rfl, rfl, rfl, D3, rfl, hk3, hm3⟩
              exact j_vret hX d_Mod_hearNew_242 rfl (Nat.le_refl _) (Nat.le_refl _) ⟨rfl, rfl, rfl, _, by rw [hnw_y hv hO (by omega) hC9.symm], by first | exact hk3 | exact DK.refl _, by rw [hnw_yN hv hO (by omega) hC9.symm]; first | (rw [if_neg (b01_n0 (by assumption)), e12]; first | (rw [if_pos (by assumption)]; exact hm3) | (rw [if_neg (by assumption)]; exact hm3)) | (rw [if_pos (Decidable.byContradiction (b01_0.mp (by assumption)))]; exact hm)⟩
    | succ k ih =>
      intro j  hi hv
      have hi2 : j < n := by omega
      refine j_iload h d_Mod_hearNew_57 rfl ?_
      refine j_aload_n h d_Mod_hearNew_59 rfl ?_
      refine j_get2e (v := nI n) h d_Mod_hearNew_60 fl_Mod_98 rfl (by assumption) (by first | exact h42 | simpa [up_rd] using h42) ?_
      refine j_ic_ge (tgt := 127) h d_Mod_hearNew_63 (by decide) (fun c => absurd c (nI_ge hi2 (by omega))) (fun _ => ?_)
      refine j_bipush (v := 32) h d_Mod_hearNew_66 (by decide) ?_
      refine j_iload_n h d_Mod_hearNew_68 rfl ?_
      refine j_imul h d_Mod_hearNew_69 ?_
      refine j_iload h d_Mod_hearNew_70 rfl ?_
      refine j_ix32 (s := s) (a := j) h d_Mod_hearNew_72 ?_
      refine j_istore h d_Mod_hearNew_73 (Nat.lt_of_lt_of_eq (m := 9) (by decide) hN.symm) ?_
      refine j_aload_n h d_Mod_hearNew_75 rfl ?_
      refine j_getR h d_Mod_hearNew_76 fl_Mod_34 rfl (by assumption) (mP ms (a := 18) (by decide)) ?_
      refine j_iload h d_Mod_hearNew_79 rfl ?_
      refine m_iald2 (a := 18) (L := 64) (j := (32 * s + j)) h ms d_Mod_hearNew_81 (by decide) rfl (by decide) rfl rfl (by omega) ?_
      refine j_iconst (v := 2) h d_Mod_hearNew_82 (by decide) ?_
      refine j_ic_ne (tgt := 121) h d_Mod_hearNew_83 (by decide) (fun c1 => ?_) (fun c1 => ?_)
      · refine j_iinc (v := nI (j + 1)) h d_Mod_hearNew_121 rfl (nI_i j) (Nat.lt_of_lt_of_eq (m := 9) (by decide) hN.symm) ?_
        refine j_goto (tgt := 57) h d_Mod_hearNew_124 (by decide) ?_
        refine j_lv (lv' := [(0, .ref (K.ad 6 0)), (1, .int (nI s)), (2, .int (x 2)), (3, .int (x 5)), (4, .int (x 6)), (5, .int (clk C s)), (6, .int (lstOwn C s n 0)), (7, .int (nI (j + 1)))]) (lvs rfl (lvs rfl (lvs rfl (lvs rfl (lvs rfl (lvs rfl (lvs rfl (lvs rfl lvs0)))))))) ?_
        exact ih (j + 1) (by omega) (hv.trans (by rw [lsdTo]; clear ih hX h hl; first | (simp_all; done) | grind))
      · refine j_aload_n h d_Mod_hearNew_86 rfl ?_
        refine j_getR h d_Mod_hearNew_87 fl_Mod_37 rfl (by assumption) (mP ms (a := 19) (by decide)) ?_
        refine j_iload h d_Mod_hearNew_90 rfl ?_
        refine m_iald2 (a := 19) (L := 64) (j := (32 * s + j)) h ms d_Mod_hearNew_92 (by decide) rfl (by decide) rfl rfl (by omega) ?_
        refine j_iload_n h d_Mod_hearNew_93 rfl ?_
        refine j_ic_ne (tgt := 121) h d_Mod_hearNew_94 (by decide) (fun c2 => ?_) (fun c2 => ?_)
        · refine j_iinc (v := nI (j + 1)) h d_Mod_hearNew_121 rfl (nI_i j) (Nat.lt_of_lt_of_eq (m := 9) (by decide) hN.symm) ?_
          refine j_goto (tgt := 57) h d_Mod_hearNew_124 (by decide) ?_
          refine j_lv (lv' := [(0, .ref (K.ad 6 0)), (1, .int (nI s)), (2, .int (x 2)), (3, .int (x 5)), (4, .int (x 6)), (5, .int (clk C s)), (6, .int (lstOwn C s n 0)), (7, .int (nI (j + 1)))]) (lvs rfl (lvs rfl (lvs rfl (lvs rfl (lvs rfl (lvs rfl (lvs rfl (lvs rfl lvs0)))))))) ?_
          exact ih (j + 1) (by omega) (hv.trans (by rw [lsdTo]; clear ih hX h hl; first | (simp_all; done) | grind))
        · refine j_aload_n h d_Mod_hearNew_97 rfl ?_
          refine j_getR h d_Mod_hearNew_98 fl_Mod_40 rfl (by assumption) (mP ms (a := 20) (by decide)) ?_
          refine j_iload h d_Mod_hearNew_101 rfl ?_
          refine m_iald2 (a := 20) (L := 64) (j := (32 * s + j)) h ms d_Mod_hearNew_103 (by decide) rfl (by decide) rfl rfl (by omega) ?_
          refine j_iload h d_Mod_hearNew_104 rfl ?_
          refine j_ic_le (tgt := 121) h d_Mod_hearNew_106 (by decide) (fun c3 => ?_) (fun c3 => ?_)
          · refine j_iinc (v := nI (j + 1)) h d_Mod_hearNew_121 rfl (nI_i j) (Nat.lt_of_lt_of_eq (m := 9) (by decide) hN.symm) ?_
            refine j_goto (tgt := 57) h d_Mod_hearNew_124 (by decide) ?_
            refine j_lv (lv' := [(0, .ref (K.ad 6 0)), (1, .int (nI s)), (2, .int (x 2)), (3, .int (x 5)), (4, .int (x 6)), (5, .int (clk C s)), (6, .int (lstOwn C s n 0)), (7, .int (nI (j + 1)))]) (lvs rfl (lvs rfl (lvs rfl (lvs rfl (lvs rfl (lvs rfl (lvs rfl (lvs rfl lvs0)))))))) ?_
            exact ih (j + 1) (by omega) (hv.trans (by rw [lsdTo]; clear ih hX h hl; first | (simp_all; done) | grind))
          · have hF : lsdTo C s (x 2) (clk C s) n 0 = nI j := by rw [hv]; simp only [lsdTo]; clear ih hX h hl; first | (simp_all; done) | grind
            refine j_aload_n h d_Mod_hearNew_109 rfl ?_
            refine j_iload_n h d_Mod_hearNew_110 rfl ?_
            refine j_iload_n h d_Mod_hearNew_111 rfl ?_
            refine j_iload h d_Mod_hearNew_112 rfl ?_
            refine j_iload_n h d_Mod_hearNew_114 rfl ?_
            refine j_iload h d_Mod_hearNew_115 rfl ?_
            refine j_callV h (c_Mod_hearRenew _ _ _ _ _ _ _ _ ms _ hs _ _ _ ⟨hn32, h42, h43, h44⟩ _ hi2 _ hm x h0) d_Mod_hearNew_117 ml_Mod_132 mv_Mod_hearRenew (by assumption) ⟨rfl, rfl⟩ rfl rfl (Nat.le_of_ble_eq_true rfl) (hR_of hX (by decide) (by decide)) (hf_of hX (by decide) (by decide)) ?_
            rintro V3 _ _ P3 ⟨rfl, rfl, rfl, D3, rfl, hk3, hm3⟩
            exact j_vret hX d_Mod_hearNew_120 rfl (Nat.le_refl _) (Nat.le_refl _) ⟨rfl, rfl, rfl, D3, by rw [(hnw_f (ld := ld) (N := N) hF (by omega)).1], hk3, by rw [(hnw_f (ld := ld) (N := N) hF (by omega)).2]; exact hm3⟩
  have hL3 : ∀ (k : Nat) (v : Int32), k ≤ n → v = lstOwn C s (n - k) k → J X K V (bk4 A B C D) P 0 0 18 [(0, .ref (K.ad 6 0)), (1, .int (nI s)), (2, .int (x 2)), (3, .int (x 5)), (4, .int (x 6)), (5, .int (clk C s)), (6, .int v), (7, .int (nI k - 1))] [] := by
    intro k
    induction k with
    | zero =>
      intro v _ hv
      rw [Nat.sub_zero] at hv
      subst hv
      refine j_iload h d_Mod_hearNew_18 rfl ?_
      refine j_if_lt (tgt := 54) h d_Mod_hearNew_20 (by decide) (fun _ => ?_) (fun c => absurd (by decide) c)
      refine j_iconst (v := 0) h d_Mod_hearNew_54 (by decide) ?_
      refine j_istore h d_Mod_hearNew_55 (Nat.lt_of_lt_of_eq (m := 9) (by decide) hN.symm) ?_
      refine j_lv (lv' := [(0, .ref (K.ad 6 0)), (1, .int (nI s)), (2, .int (x 2)), (3, .int (x 5)), (4, .int (x 6)), (5, .int (clk C s)), (6, .int (lstOwn C s n 0)), (7, .int (nI 0))]) (lvs rfl (lvs rfl (lvs rfl (lvs rfl (lvs rfl (lvs rfl (lvs rfl (lvs rfl lvs0)))))))) ?_
      exact hL2 n 0 (by omega) rfl
    | succ k ih =>
      intro v hk hv
      have hi2 : k < n := by omega
      rw [nI_p1]
      refine j_iload h d_Mod_hearNew_18 rfl ?_
      refine j_if_lt (tgt := 54) h d_Mod_hearNew_20 (by decide) (fun c => absurd c (nI_n0 (by omega))) (fun _ => ?_)
      refine j_aload_n h d_Mod_hearNew_23 rfl ?_
      refine j_getR h d_Mod_hearNew_24 fl_Mod_34 rfl (by assumption) (mP ms (a := 18) (by decide)) ?_
      refine j_bipush (v := 32) h d_Mod_hearNew_27 (by decide) ?_
      refine j_iload_n h d_Mod_hearNew_29 rfl ?_
      refine j_imul h d_Mod_hearNew_30 ?_
      refine j_iload h d_Mod_hearNew_31 rfl ?_
      refine j_ix32 (s := s) (a := k) h d_Mod_hearNew_33 ?_
      refine m_iald2 (a := 18) (L := 64) (j := (32 * s + k)) h ms d_Mod_hearNew_34 (by decide) rfl (by decide) rfl rfl (by omega) ?_
      refine j_iconst (v := 1) h d_Mod_hearNew_35 (by decide) ?_
      refine j_ic_ne (tgt := 44) h d_Mod_hearNew_36 (by decide) (fun c1 => ?_) (fun c1 => ?_)
      · refine j_iload h d_Mod_hearNew_44 rfl ?_
        refine j_istore h d_Mod_hearNew_46 (Nat.lt_of_lt_of_eq (m := 9) (by decide) hN.symm) ?_
        refine j_iinc (v := nI k - 1) h d_Mod_hearNew_48 rfl (by rw [Int32.sub_eq_add_neg]; rfl) (Nat.lt_of_lt_of_eq (m := 9) (by decide) hN.symm) ?_
        refine j_goto (tgt := 18) h d_Mod_hearNew_51 (by decide) ?_
        refine j_lv (lv' := [(0, .ref (K.ad 6 0)), (1, .int (nI s)), (2, .int (x 2)), (3, .int (x 5)), (4, .int (x 6)), (5, .int (clk C s)), (6, .int _), (7, .int (nI k - 1))]) (lvs rfl (lvs rfl (lvs rfl (lvs rfl (lvs rfl (lvs rfl (lvs rfl (lvs rfl lvs0)))))))) ?_
        exact ih _ (by omega) (by rw [show n - k = n - (k + 1) + 1 by omega, lstOwn]; clear ih hX h hl; first | (simp_all; done) | grind)
      · refine j_iload h d_Mod_hearNew_39 rfl ?_
        refine j_goto (tgt := 46) h d_Mod_hearNew_41 (by decide) ?_
        refine j_istore h d_Mod_hearNew_46 (Nat.lt_of_lt_of_eq (m := 9) (by decide) hN.symm) ?_
        refine j_iinc (v := nI k - 1) h d_Mod_hearNew_48 rfl (by rw [Int32.sub_eq_add_neg]; rfl) (Nat.lt_of_lt_of_eq (m := 9) (by decide) hN.symm) ?_
        refine j_goto (tgt := 18) h d_Mod_hearNew_51 (by decide) ?_
        refine j_lv (lv' := [(0, .ref (K.ad 6 0)), (1, .int (nI s)), (2, .int (x 2)), (3, .int (x 5)), (4, .int (x 6)), (5, .int (clk C s)), (6, .int _), (7, .int (nI k - 1))]) (lvs rfl (lvs rfl (lvs rfl (lvs rfl (lvs rfl (lvs rfl (lvs rfl (lvs rfl lvs0)))))))) ?_
        exact ih _ (by omega) (by rw [show n - k = n - (k + 1) + 1 by omega, lstOwn]; clear ih hX h hl; first | (simp_all; done) | grind)
  refine j_aload_n h d_Mod_hearNew_0 rfl ?_
  refine j_iload_n h d_Mod_hearNew_1 rfl ?_
  refine j_callV h (c_Mod_clock _ _ _ _ _ _ _ _ ms _ hs) d_Mod_hearNew_2 ml_Mod_128 mv_Mod_clock (by assumption) ⟨rfl, rfl⟩ rfl rfl (Nat.le_of_ble_eq_true rfl) (hR_of hX (by decide) (by decide)) (hf_of hX (by decide) (by decide)) ?_
  rintro _ _ _ _ ⟨rfl, rfl, rfl, rfl⟩
  refine j_istore h d_Mod_hearNew_5 (Nat.lt_of_lt_of_eq (m := 9) (by decide) hN.symm) ?_
  refine j_iconst (v := -1) h d_Mod_hearNew_7 (by decide) ?_
  refine j_istore h d_Mod_hearNew_8 (Nat.lt_of_lt_of_eq (m := 9) (by decide) hN.symm) ?_
  refine j_aload_n h d_Mod_hearNew_10 rfl ?_
  refine j_get2e (v := nI n) h d_Mod_hearNew_11 fl_Mod_98 rfl (by assumption) (by first | exact h42 | simpa [up_rd] using h42) ?_
  refine j_iconst (v := 1) h d_Mod_hearNew_14 (by decide) ?_
  refine j_isub h d_Mod_hearNew_15 ?_
  refine j_istore h d_Mod_hearNew_16 (Nat.lt_of_lt_of_eq (m := 9) (by decide) hN.symm) ?_
  refine j_lv (lv' := [(0, .ref (K.ad 6 0)), (1, .int (nI s)), (2, .int (x 2)), (3, .int (x 5)), (4, .int (x 6)), (5, .int (clk C s)), (6, .int (-1)), (7, .int (nI n - 1))]) (lvs rfl (lvs rfl (lvs rfl (lvs rfl (lvs rfl (lvs rfl (lvs rfl (lvs rfl lvs0)))))))) ?_
  exact hL3 n _ (Nat.le_refl _) (by rw [Nat.sub_self]; rfl)
