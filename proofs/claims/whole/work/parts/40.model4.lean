/-! the model: renewals, new leases -/
section JI
variable {X : Jx} {K : Kx} {V : Vx} {I : MI3} {P : MP} {cells slots pc : Nat} {lv : List (Nat × Value)} {st : List Value}
theorem j_int {v v' : Int32} (e : v = v') (k : J X K V I P cells slots pc lv (.int v' :: st)) : J X K V I P cells slots pc lv (.int v :: st) := by rw [e]; exact k
end JI
section HRN
variable {C C' : MI} {s a : Nat} {ld t : Int32} {x : Msg} {N : List Msg}
theorem hrnA_q (e : rnw C (32 * s + a) s a ld t (x 2) (x 6) (x 5) = (-2, C)) : hrnA C s a ld t x = C := by unfold hrnA; rw [e, if_pos rfl]
theorem hrnN_q (e : rnw C (32 * s + a) s a ld t (x 2) (x 6) (x 5) = (-2, C)) : hrnN C s a ld t x N = N := by unfold hrnN; rw [e, if_pos rfl]
theorem hrnA_n (e : rnw C (32 * s + a) s a ld t (x 2) (x 6) (x 5) = (-1, C)) : hrnA C s a ld t x = C := by unfold hrnA fA; rw [e, if_neg (show ¬ (-1 : Int32) = -2 by decide), if_pos rfl]
theorem hrnN_n (e : rnw C (32 * s + a) s a ld t (x 2) (x 6) (x 5) = (-1, C)) (h : ¬ C 0 s = 0) : hrnN C s a ld t x N = netput (m_ans s (x 2) (x 5) 0 (-1) 0) N := by
  unfold hrnN fN fA
  rw [e]
  simp only []
  rw [if_neg (by decide)]
  simp [h]
theorem hrnA_y (e : rnw C (32 * s + a) s a ld t (x 2) (x 6) (x 5) = (nI a, C')) (ha : a < 2 ^ 31) : hrnA C s a ld t x = wr C' s := by unfold hrnA fA; rw [e, if_neg (nI_m2 ha), if_neg (nI_m1 ha)]
theorem hrnN_d (e : rnw C (32 * s + a) s a ld t (x 2) (x 6) (x 5) = (nI a, C')) (ha : a < 2 ^ 31) (h : wr C' s 0 s = 0) : hrnN C s a ld t x N = N := by
  unfold hrnN fN fA
  rw [e]
  simp only []
  rw [if_neg (nI_m2 ha), if_neg (nI_m1 ha), if_pos h]
theorem hrnN_y (e : rnw C (32 * s + a) s a ld t (x 2) (x 6) (x 5) = (nI a, C')) (ha : a < 2 ^ 31) (h : ¬ wr C' s 0 s = 0) : hrnN C s a ld t x N = netput (m_ans s (x 2) (x 5) 1 (nI a) (wr C' s 12 (32 * s + a))) N := by
  unfold hrnN fN fA
  rw [e]
  simp only []
  rw [if_neg (nI_m2 ha), if_neg (nI_m1 ha), if_neg h, if_neg (nI_m1 ha), nI_clamp ha]
end HRN
theorem wr_c (A : MI) (s col i : Nat) (h : 8 ≤ col) : wr A s col i = A col i := by
  unfold wr
  split
  · simp only [up_rd]; rw [if_neg (by omega), if_neg (by omega), if_neg (by omega)]
  · split
    · simp only [up_rd]; rw [if_neg (by omega), if_neg (by omega)]
    · simp only [up_rd]; rw [if_neg (by omega)]
theorem d_Mod_hearRenew_0 : decode b_Mod_hearRenew 0 = .ok (.bipush 32, 2) := by decide +kernel
theorem d_Mod_hearRenew_2 : decode b_Mod_hearRenew 2 = .ok (.iload_n 1, 1) := by decide +kernel
theorem d_Mod_hearRenew_3 : decode b_Mod_hearRenew 3 = .ok (.imul, 1) := by decide +kernel
theorem d_Mod_hearRenew_4 : decode b_Mod_hearRenew 4 = .ok (.iload_n 3, 1) := by decide +kernel
theorem d_Mod_hearRenew_5 : decode b_Mod_hearRenew 5 = .ok (.iadd, 1) := by decide +kernel
theorem d_Mod_hearRenew_6 : decode b_Mod_hearRenew 6 = .ok (.istore 6, 2) := by decide +kernel
theorem d_Mod_hearRenew_8 : decode b_Mod_hearRenew 8 = .ok (.aload_n 0, 1) := by decide +kernel
theorem d_Mod_hearRenew_9 : decode b_Mod_hearRenew 9 = .ok (.iload_n 1, 1) := by decide +kernel
theorem d_Mod_hearRenew_10 : decode b_Mod_hearRenew 10 = .ok (.invokevirtual 128, 3) := by decide +kernel
theorem d_Mod_hearRenew_13 : decode b_Mod_hearRenew 13 = .ok (.istore 7, 2) := by decide +kernel
theorem d_Mod_hearRenew_15 : decode b_Mod_hearRenew 15 = .ok (.aload_n 0, 1) := by decide +kernel
theorem d_Mod_hearRenew_16 : decode b_Mod_hearRenew 16 = .ok (.getfield 34, 3) := by decide +kernel
theorem d_Mod_hearRenew_19 : decode b_Mod_hearRenew 19 = .ok (.iload 6, 2) := by decide +kernel
theorem d_Mod_hearRenew_21 : decode b_Mod_hearRenew 21 = .ok (.iaload, 1) := by decide +kernel
theorem d_Mod_hearRenew_22 : decode b_Mod_hearRenew 22 = .ok (.iconst 2, 1) := by decide +kernel
theorem d_Mod_hearRenew_23 : decode b_Mod_hearRenew 23 = .ok (.if_icmp .ne 18, 3) := by decide +kernel
theorem d_Mod_hearRenew_26 : decode b_Mod_hearRenew 26 = .ok (.aload_n 0, 1) := by decide +kernel
theorem d_Mod_hearRenew_27 : decode b_Mod_hearRenew 27 = .ok (.getfield 37, 3) := by decide +kernel
theorem d_Mod_hearRenew_30 : decode b_Mod_hearRenew 30 = .ok (.iload 6, 2) := by decide +kernel
theorem d_Mod_hearRenew_32 : decode b_Mod_hearRenew 32 = .ok (.iaload, 1) := by decide +kernel
theorem d_Mod_hearRenew_33 : decode b_Mod_hearRenew 33 = .ok (.iload_n 2, 1) := by decide +kernel
theorem d_Mod_hearRenew_34 : decode b_Mod_hearRenew 34 = .ok (.if_icmp .ne 7, 3) := by decide +kernel
theorem d_Mod_hearRenew_37 : decode b_Mod_hearRenew 37 = .ok (.iconst 1, 1) := by decide +kernel
theorem d_Mod_hearRenew_38 : decode b_Mod_hearRenew 38 = .ok (.goto 4, 3) := by decide +kernel
theorem d_Mod_hearRenew_41 : decode b_Mod_hearRenew 41 = .ok (.iconst 0, 1) := by decide +kernel
theorem d_Mod_hearRenew_42 : decode b_Mod_hearRenew 42 = .ok (.istore 8, 2) := by decide +kernel
theorem d_Mod_hearRenew_44 : decode b_Mod_hearRenew 44 = .ok (.iload 8, 2) := by decide +kernel
theorem d_Mod_hearRenew_46 : decode b_Mod_hearRenew 46 = .ok (.ifCond .eq 16, 3) := by decide +kernel
theorem d_Mod_hearRenew_49 : decode b_Mod_hearRenew 49 = .ok (.aload_n 0, 1) := by decide +kernel
theorem d_Mod_hearRenew_50 : decode b_Mod_hearRenew 50 = .ok (.getfield 43, 3) := by decide +kernel
theorem d_Mod_hearRenew_53 : decode b_Mod_hearRenew 53 = .ok (.iload 6, 2) := by decide +kernel
theorem d_Mod_hearRenew_55 : decode b_Mod_hearRenew 55 = .ok (.iaload, 1) := by decide +kernel
theorem d_Mod_hearRenew_56 : decode b_Mod_hearRenew 56 = .ok (.iload 4, 2) := by decide +kernel
theorem d_Mod_hearRenew_58 : decode b_Mod_hearRenew 58 = .ok (.if_icmp .le 4, 3) := by decide +kernel
theorem d_Mod_hearRenew_61 : decode b_Mod_hearRenew 61 = .ok (.return_, 1) := by decide +kernel
theorem d_Mod_hearRenew_62 : decode b_Mod_hearRenew 62 = .ok (.iload 8, 2) := by decide +kernel
theorem d_Mod_hearRenew_64 : decode b_Mod_hearRenew 64 = .ok (.ifCond .eq 15, 3) := by decide +kernel
theorem d_Mod_hearRenew_67 : decode b_Mod_hearRenew 67 = .ok (.aload_n 0, 1) := by decide +kernel
theorem d_Mod_hearRenew_68 : decode b_Mod_hearRenew 68 = .ok (.getfield 40, 3) := by decide +kernel
theorem d_Mod_hearRenew_71 : decode b_Mod_hearRenew 71 = .ok (.iload 6, 2) := by decide +kernel
theorem d_Mod_hearRenew_73 : decode b_Mod_hearRenew 73 = .ok (.iaload, 1) := by decide +kernel
theorem d_Mod_hearRenew_74 : decode b_Mod_hearRenew 74 = .ok (.iload 7, 2) := by decide +kernel
theorem d_Mod_hearRenew_76 : decode b_Mod_hearRenew 76 = .ok (.if_icmp .gt 15, 3) := by decide +kernel
theorem d_Mod_hearRenew_79 : decode b_Mod_hearRenew 79 = .ok (.aload_n 0, 1) := by decide +kernel
theorem d_Mod_hearRenew_80 : decode b_Mod_hearRenew 80 = .ok (.iload_n 1, 1) := by decide +kernel
theorem d_Mod_hearRenew_81 : decode b_Mod_hearRenew 81 = .ok (.iload_n 2, 1) := by decide +kernel
theorem d_Mod_hearRenew_82 : decode b_Mod_hearRenew 82 = .ok (.iconst 0, 1) := by decide +kernel
theorem d_Mod_hearRenew_83 : decode b_Mod_hearRenew 83 = .ok (.iconst 0, 1) := by decide +kernel
theorem d_Mod_hearRenew_84 : decode b_Mod_hearRenew 84 = .ok (.iload 4, 2) := by decide +kernel
theorem d_Mod_hearRenew_86 : decode b_Mod_hearRenew 86 = .ok (.iconst 0, 1) := by decide +kernel
theorem d_Mod_hearRenew_87 : decode b_Mod_hearRenew 87 = .ok (.invokevirtual 136, 3) := by decide +kernel
theorem d_Mod_hearRenew_90 : decode b_Mod_hearRenew 90 = .ok (.return_, 1) := by decide +kernel
theorem d_Mod_hearRenew_91 : decode b_Mod_hearRenew 91 = .ok (.aload_n 0, 1) := by decide +kernel
theorem d_Mod_hearRenew_92 : decode b_Mod_hearRenew 92 = .ok (.getfield 43, 3) := by decide +kernel
theorem d_Mod_hearRenew_95 : decode b_Mod_hearRenew 95 = .ok (.iload 6, 2) := by decide +kernel
theorem d_Mod_hearRenew_97 : decode b_Mod_hearRenew 97 = .ok (.iload 4, 2) := by decide +kernel
theorem d_Mod_hearRenew_99 : decode b_Mod_hearRenew 99 = .ok (.iastore, 1) := by decide +kernel
theorem d_Mod_hearRenew_100 : decode b_Mod_hearRenew 100 = .ok (.iload 7, 2) := by decide +kernel
theorem d_Mod_hearRenew_102 : decode b_Mod_hearRenew 102 = .ok (.iload 5, 2) := by decide +kernel
theorem d_Mod_hearRenew_104 : decode b_Mod_hearRenew 104 = .ok (.iadd, 1) := by decide +kernel
theorem d_Mod_hearRenew_105 : decode b_Mod_hearRenew 105 = .ok (.istore 9, 2) := by decide +kernel
theorem d_Mod_hearRenew_107 : decode b_Mod_hearRenew 107 = .ok (.aload_n 0, 1) := by decide +kernel
theorem d_Mod_hearRenew_108 : decode b_Mod_hearRenew 108 = .ok (.getfield 59, 3) := by decide +kernel
theorem d_Mod_hearRenew_111 : decode b_Mod_hearRenew 111 = .ok (.iload 6, 2) := by decide +kernel
theorem d_Mod_hearRenew_113 : decode b_Mod_hearRenew 113 = .ok (.iaload, 1) := by decide +kernel
theorem d_Mod_hearRenew_114 : decode b_Mod_hearRenew 114 = .ok (.iload 7, 2) := by decide +kernel
theorem d_Mod_hearRenew_116 : decode b_Mod_hearRenew 116 = .ok (.invokestatic 150, 3) := by decide +kernel
theorem d_Mod_hearRenew_119 : decode b_Mod_hearRenew 119 = .ok (.aload_n 0, 1) := by decide +kernel
theorem d_Mod_hearRenew_120 : decode b_Mod_hearRenew 120 = .ok (.getfield 102, 3) := by decide +kernel
theorem d_Mod_hearRenew_123 : decode b_Mod_hearRenew 123 = .ok (.iadd, 1) := by decide +kernel
theorem d_Mod_hearRenew_124 : decode b_Mod_hearRenew 124 = .ok (.istore 10, 2) := by decide +kernel
theorem d_Mod_hearRenew_126 : decode b_Mod_hearRenew 126 = .ok (.aload_n 0, 1) := by decide +kernel
theorem d_Mod_hearRenew_127 : decode b_Mod_hearRenew 127 = .ok (.getfield 7, 3) := by decide +kernel
theorem d_Mod_hearRenew_130 : decode b_Mod_hearRenew 130 = .ok (.iload_n 1, 1) := by decide +kernel
theorem d_Mod_hearRenew_131 : decode b_Mod_hearRenew 131 = .ok (.iaload, 1) := by decide +kernel
theorem d_Mod_hearRenew_132 : decode b_Mod_hearRenew 132 = .ok (.iconst 2, 1) := by decide +kernel
theorem d_Mod_hearRenew_133 : decode b_Mod_hearRenew 133 = .ok (.if_icmp .ne 15, 3) := by decide +kernel
theorem d_Mod_hearRenew_136 : decode b_Mod_hearRenew 136 = .ok (.iload 9, 2) := by decide +kernel
theorem d_Mod_hearRenew_138 : decode b_Mod_hearRenew 138 = .ok (.iload 10, 2) := by decide +kernel
theorem d_Mod_hearRenew_140 : decode b_Mod_hearRenew 140 = .ok (.if_icmp .le 8, 3) := by decide +kernel
theorem d_Mod_hearRenew_143 : decode b_Mod_hearRenew 143 = .ok (.iload 10, 2) := by decide +kernel
theorem d_Mod_hearRenew_145 : decode b_Mod_hearRenew 145 = .ok (.goto 5, 3) := by decide +kernel
theorem d_Mod_hearRenew_148 : decode b_Mod_hearRenew 148 = .ok (.iload 9, 2) := by decide +kernel
theorem d_Mod_hearRenew_150 : decode b_Mod_hearRenew 150 = .ok (.istore 9, 2) := by decide +kernel
theorem d_Mod_hearRenew_152 : decode b_Mod_hearRenew 152 = .ok (.aload_n 0, 1) := by decide +kernel
theorem d_Mod_hearRenew_153 : decode b_Mod_hearRenew 153 = .ok (.getfield 40, 3) := by decide +kernel
theorem d_Mod_hearRenew_156 : decode b_Mod_hearRenew 156 = .ok (.iload 6, 2) := by decide +kernel
theorem d_Mod_hearRenew_158 : decode b_Mod_hearRenew 158 = .ok (.aload_n 0, 1) := by decide +kernel
theorem d_Mod_hearRenew_159 : decode b_Mod_hearRenew 159 = .ok (.getfield 40, 3) := by decide +kernel
theorem d_Mod_hearRenew_162 : decode b_Mod_hearRenew 162 = .ok (.iload 6, 2) := by decide +kernel
theorem d_Mod_hearRenew_164 : decode b_Mod_hearRenew 164 = .ok (.iaload, 1) := by decide +kernel
theorem d_Mod_hearRenew_165 : decode b_Mod_hearRenew 165 = .ok (.iload 9, 2) := by decide +kernel
theorem d_Mod_hearRenew_167 : decode b_Mod_hearRenew 167 = .ok (.invokestatic 150, 3) := by decide +kernel
theorem d_Mod_hearRenew_170 : decode b_Mod_hearRenew 170 = .ok (.iastore, 1) := by decide +kernel
theorem d_Mod_hearRenew_171 : decode b_Mod_hearRenew 171 = .ok (.aload_n 0, 1) := by decide +kernel
theorem d_Mod_hearRenew_172 : decode b_Mod_hearRenew 172 = .ok (.iload 6, 2) := by decide +kernel
theorem d_Mod_hearRenew_174 : decode b_Mod_hearRenew 174 = .ok (.invokevirtual 140, 3) := by decide +kernel
theorem d_Mod_hearRenew_177 : decode b_Mod_hearRenew 177 = .ok (.aload_n 0, 1) := by decide +kernel
theorem d_Mod_hearRenew_178 : decode b_Mod_hearRenew 178 = .ok (.iload_n 1, 1) := by decide +kernel
theorem d_Mod_hearRenew_179 : decode b_Mod_hearRenew 179 = .ok (.invokevirtual 147, 3) := by decide +kernel
theorem d_Mod_hearRenew_182 : decode b_Mod_hearRenew 182 = .ok (.ifCond .eq 20, 3) := by decide +kernel
theorem d_Mod_hearRenew_185 : decode b_Mod_hearRenew 185 = .ok (.aload_n 0, 1) := by decide +kernel
theorem d_Mod_hearRenew_186 : decode b_Mod_hearRenew 186 = .ok (.iload_n 1, 1) := by decide +kernel
theorem d_Mod_hearRenew_187 : decode b_Mod_hearRenew 187 = .ok (.iload_n 2, 1) := by decide +kernel
theorem d_Mod_hearRenew_188 : decode b_Mod_hearRenew 188 = .ok (.iconst 1, 1) := by decide +kernel
theorem d_Mod_hearRenew_189 : decode b_Mod_hearRenew 189 = .ok (.iload_n 3, 1) := by decide +kernel
theorem d_Mod_hearRenew_190 : decode b_Mod_hearRenew 190 = .ok (.iload 4, 2) := by decide +kernel
theorem d_Mod_hearRenew_192 : decode b_Mod_hearRenew 192 = .ok (.aload_n 0, 1) := by decide +kernel
theorem d_Mod_hearRenew_193 : decode b_Mod_hearRenew 193 = .ok (.getfield 40, 3) := by decide +kernel
theorem d_Mod_hearRenew_196 : decode b_Mod_hearRenew 196 = .ok (.iload 6, 2) := by decide +kernel
theorem d_Mod_hearRenew_198 : decode b_Mod_hearRenew 198 = .ok (.iaload, 1) := by decide +kernel
theorem d_Mod_hearRenew_199 : decode b_Mod_hearRenew 199 = .ok (.invokevirtual 136, 3) := by decide +kernel
theorem d_Mod_hearRenew_202 : decode b_Mod_hearRenew 202 = .ok (.return_, 1) := by decide +kernel
set_option maxRecDepth 100000 in
set_option maxHeartbeats 4000000 in
theorem c_Mod_hearRenew (l : Launch) (K : Kx) (V : Vx) (A B C D : MI) (P : MP) (ms : MSt K V P) (s : Nat) (hs : s < 2) (n : Nat) (ld sk : Int32) (hf : MF C n ld sk) (a : Nat) (ha : a < n) (N : List Msg) (hm : MN D N) (x : Msg) (h0 : ¬ C 0 s = 0) : Ct l K md_Mod_hearRenew (3, 69) 0 0 [.ref (K.ad 6 0), .int (nI s), .int (x 2), .int (nI a), .int (x 5), .int (x 6)] V (bk4 A B C D) P (MQ_ V A B P none (hrnA C s a ld (clk C s) x) D (hrnN C s a ld (clk C s) x N)) := by
  refine ct_of [(0, .ref (K.ad 6 0)), (1, .int (nI s)), (2, .int (x 2)), (3, .int (nI a)), (4, .int (x 5)), (5, .int (x 6))] (by decide) (Nat.le_of_ble_eq_true rfl) (ca_r (ca_i (ca_i (ca_i (ca_i (ca_i ca_n)))))) rfl ?_
  intro X hl hX
  have h : OkX X b_Mod_hearRenew R_Mod K := hX.1
  have hN : X.nL = 11 := hX.2.1
  have hmv := ms.1
  obtain ⟨hn32, h42, h43, h44⟩ := hf
  refine j_bipush (v := 32) h d_Mod_hearRenew_0 (by decide) ?_
  refine j_iload_n h d_Mod_hearRenew_2 rfl ?_
  refine j_imul h d_Mod_hearRenew_3 ?_
  refine j_iload_n h d_Mod_hearRenew_4 rfl ?_
  refine j_ix32 (s := s) (a := a) h d_Mod_hearRenew_5 ?_
  refine j_istore h d_Mod_hearRenew_6 (Nat.lt_of_lt_of_eq (m := 11) (by decide) hN.symm) ?_
  refine j_aload_n h d_Mod_hearRenew_8 rfl ?_
  refine j_iload_n h d_Mod_hearRenew_9 rfl ?_
  refine j_callV h (c_Mod_clock _ _ _ _ _ _ _ _ ms _ hs) d_Mod_hearRenew_10 ml_Mod_128 mv_Mod_clock (by assumption) ⟨rfl, rfl⟩ rfl rfl (Nat.le_of_ble_eq_true rfl) (hR_of hX (by decide) (by decide)) (hf_of hX (by decide) (by decide)) ?_
  rintro _ _ _ _ ⟨rfl, rfl, rfl, rfl⟩
  refine j_istore h d_Mod_hearRenew_13 (Nat.lt_of_lt_of_eq (m := 11) (by decide) hN.symm) ?_
  refine j_aload_n h d_Mod_hearRenew_15 rfl ?_
  refine j_getR h d_Mod_hearRenew_16 fl_Mod_34 rfl (by assumption) (mP ms (a := 18) (by decide)) ?_
  refine j_iload h d_Mod_hearRenew_19 rfl ?_
  refine m_iald2 (a := 18) (L := 64) (j := (32 * s + a)) h ms d_Mod_hearRenew_21 (by decide) rfl (by decide) rfl rfl (by omega) ?_
  refine j_iconst (v := 2) h d_Mod_hearRenew_22 (by decide) ?_
  refine j_ic_ne (tgt := 41) h d_Mod_hearRenew_23 (by decide) (fun c1 => ?_) (fun c1 => ?_)
  · refine j_iconst (v := 0) h d_Mod_hearRenew_41 (by decide) ?_
    refine j_istore h d_Mod_hearRenew_42 (Nat.lt_of_lt_of_eq (m := 11) (by decide) hN.symm) ?_
    refine j_iload h d_Mod_hearRenew_44 rfl ?_
    refine j_if_eq (tgt := 62) h d_Mod_hearRenew_46 (by decide) (fun c2 => ?_) (fun c2 => absurd c2 (by decide))
    refine j_iload h d_Mod_hearRenew_62 rfl ?_
    refine j_if_eq (tgt := 79) h d_Mod_hearRenew_64 (by decide) (fun c3 => ?_) (fun c3 => absurd c3 (by decide))
    refine j_aload_n h d_Mod_hearRenew_79 rfl ?_
    refine j_iload_n h d_Mod_hearRenew_80 rfl ?_
    refine j_iload_n h d_Mod_hearRenew_81 rfl ?_
    refine j_iconst (v := 0) h d_Mod_hearRenew_82 (by decide) ?_
    refine j_iconst (v := 0) h d_Mod_hearRenew_83 (by decide) ?_
    refine j_iload h d_Mod_hearRenew_84 rfl ?_
    refine j_iconst (v := 0) h d_Mod_hearRenew_86 (by decide) ?_
    refine j_callV h (c_Mod_answer_no _ _ _ _ _ _ _ _ ms _ hm _ hs _ _ _ _) d_Mod_hearRenew_87 ml_Mod_136 mv_Mod_answer (by assumption) ⟨rfl, rfl⟩ rfl rfl (Nat.le_of_ble_eq_true rfl) (hR_of hX (by decide) (by decide)) (hf_of hX (by decide) (by decide)) ?_
    rintro V3 _ _ P3 ⟨rfl, rfl, rfl, D3, rfl, hk3, hm3⟩
    have hE : rnw C (32 * s + a) s a ld (clk C s) (x 2) (x 6) (x 5) = (-1, C) := by unfold rnw; clear hX h hl; first | (simp_all; done) | grind
    exact j_vret hX d_Mod_hearRenew_90 rfl (Nat.le_refl _) (Nat.le_refl _) ⟨rfl, rfl, rfl, D3, by rw [hrnA_n hE], hk3, by rw [hrnN_n hE h0]; exact hm3⟩
  · refine j_aload_n h d_Mod_hearRenew_26 rfl ?_
    refine j_getR h d_Mod_hearRenew_27 fl_Mod_37 rfl (by assumption) (mP ms (a := 19) (by decide)) ?_
    refine j_iload h d_Mod_hearRenew_30 rfl ?_
    refine m_iald2 (a := 19) (L := 64) (j := (32 * s + a)) h ms d_Mod_hearRenew_32 (by decide) rfl (by decide) rfl rfl (by omega) ?_
    refine j_iload_n h d_Mod_hearRenew_33 rfl ?_
    refine j_ic_ne (tgt := 41) h d_Mod_hearRenew_34 (by decide) (fun c4 => ?_) (fun c4 => ?_)
    · refine j_iconst (v := 0) h d_Mod_hearRenew_41 (by decide) ?_
      refine j_istore h d_Mod_hearRenew_42 (Nat.lt_of_lt_of_eq (m := 11) (by decide) hN.symm) ?_
      refine j_iload h d_Mod_hearRenew_44 rfl ?_
      refine j_if_eq (tgt := 62) h d_Mod_hearRenew_46 (by decide) (fun c5 => ?_) (fun c5 => absurd c5 (by decide))
      refine j_iload h d_Mod_hearRenew_62 rfl ?_
      refine j_if_eq (tgt := 79) h d_Mod_hearRenew_64 (by decide) (fun c6 => ?_) (fun c6 => absurd c6 (by decide))
      refine j_aload_n h d_Mod_hearRenew_79 rfl ?_
      refine j_iload_n h d_Mod_hearRenew_80 rfl ?_
      refine j_iload_n h d_Mod_hearRenew_81 rfl ?_
      refine j_iconst (v := 0) h d_Mod_hearRenew_82 (by decide) ?_
      refine j_iconst (v := 0) h d_Mod_hearRenew_83 (by decide) ?_
      refine j_iload h d_Mod_hearRenew_84 rfl ?_
      refine j_iconst (v := 0) h d_Mod_hearRenew_86 (by decide) ?_
      refine j_callV h (c_Mod_answer_no _ _ _ _ _ _ _ _ ms _ hm _ hs _ _ _ _) d_Mod_hearRenew_87 ml_Mod_136 mv_Mod_answer (by assumption) ⟨rfl, rfl⟩ rfl rfl (Nat.le_of_ble_eq_true rfl) (hR_of hX (by decide) (by decide)) (hf_of hX (by decide) (by decide)) ?_
      rintro V3 _ _ P3 ⟨rfl, rfl, rfl, D3, rfl, hk3, hm3⟩
      have hE : rnw C (32 * s + a) s a ld (clk C s) (x 2) (x 6) (x 5) = (-1, C) := by unfold rnw; clear hX h hl; first | (simp_all; done) | grind
      exact j_vret hX d_Mod_hearRenew_90 rfl (Nat.le_refl _) (Nat.le_refl _) ⟨rfl, rfl, rfl, D3, by rw [hrnA_n hE], hk3, by rw [hrnN_n hE h0]; exact hm3⟩
    · refine j_iconst (v := 1) h d_Mod_hearRenew_37 (by decide) ?_
      refine j_goto (tgt := 42) h d_Mod_hearRenew_38 (by decide) ?_
      refine j_istore h d_Mod_hearRenew_42 (Nat.lt_of_lt_of_eq (m := 11) (by decide) hN.symm) ?_
      refine j_iload h d_Mod_hearRenew_44 rfl ?_
      refine j_if_eq (tgt := 62) h d_Mod_hearRenew_46 (by decide) (fun c7 => absurd c7 (by decide)) (fun c7 => ?_)
      refine j_aload_n h d_Mod_hearRenew_49 rfl ?_
      refine j_getR h d_Mod_hearRenew_50 fl_Mod_43 rfl (by assumption) (mP ms (a := 21) (by decide)) ?_
      refine j_iload h d_Mod_hearRenew_53 rfl ?_
      refine m_iald2 (a := 21) (L := 64) (j := (32 * s + a)) h ms d_Mod_hearRenew_55 (by decide) rfl (by decide) rfl rfl (by omega) ?_
      refine j_iload h d_Mod_hearRenew_56 rfl ?_
      refine j_ic_le (tgt := 62) h d_Mod_hearRenew_58 (by decide) (fun c8 => ?_) (fun c8 => ?_)
      · refine j_iload h d_Mod_hearRenew_62 rfl ?_
        refine j_if_eq (tgt := 79) h d_Mod_hearRenew_64 (by decide) (fun c9 => absurd c9 (by decide)) (fun c9 => ?_)
        refine j_aload_n h d_Mod_hearRenew_67 rfl ?_
        refine j_getR h d_Mod_hearRenew_68 fl_Mod_40 rfl (by assumption) (mP ms (a := 20) (by decide)) ?_
        refine j_iload h d_Mod_hearRenew_71 rfl ?_
        refine m_iald2 (a := 20) (L := 64) (j := (32 * s + a)) h ms d_Mod_hearRenew_73 (by decide) rfl (by decide) rfl rfl (by omega) ?_
        refine j_iload h d_Mod_hearRenew_74 rfl ?_
        refine j_ic_gt (tgt := 91) h d_Mod_hearRenew_76 (by decide) (fun c10 => ?_) (fun c10 => ?_)
        · refine j_aload_n h d_Mod_hearRenew_91 rfl ?_
          refine j_getR h d_Mod_hearRenew_92 fl_Mod_43 rfl (by assumption) (mP ms (a := 21) (by decide)) ?_
          refine j_iload h d_Mod_hearRenew_95 rfl ?_
          refine j_iload h d_Mod_hearRenew_97 rfl ?_
          refine m_iast2 (a := 21) (L := 64) (j := (32 * s + a)) h ms d_Mod_hearRenew_99 (by decide) rfl (by decide) rfl rfl (by omega) ?_
          refine j_iload h d_Mod_hearRenew_100 rfl ?_
          refine j_iload h d_Mod_hearRenew_102 rfl ?_
          refine j_iadd h d_Mod_hearRenew_104 ?_
          refine j_istore h d_Mod_hearRenew_105 (Nat.lt_of_lt_of_eq (m := 11) (by decide) hN.symm) ?_
          refine j_aload_n h d_Mod_hearRenew_107 rfl ?_
          refine j_getR h d_Mod_hearRenew_108 fl_Mod_59 rfl (by assumption) (mP ms (a := 26) (by decide)) ?_
          refine j_iload h d_Mod_hearRenew_111 rfl ?_
          refine m_iald2 (a := 26) (L := 64) (j := (32 * s + a)) h ms d_Mod_hearRenew_113 (by decide) rfl (by decide) rfl rfl (by omega) ?_
          refine j_iload h d_Mod_hearRenew_114 rfl ?_
          refine j_callS h (c_Mod_greater _ _ _ _ _ _ _ _ _ _) d_Mod_hearRenew_116 ml_Mod_150 ms_Mod_greater rfl rfl (Nat.le_of_ble_eq_true rfl) (hR_of hX (by decide) (by decide)) (hf_of hX (by decide) (by decide)) ?_
          rintro _ _ _ _ ⟨rfl, rfl, rfl, rfl⟩
          refine j_aload_n h d_Mod_hearRenew_119 rfl ?_
          refine j_get2 h d_Mod_hearRenew_120 fl_Mod_102 rfl (by assumption) ?_
          refine j_iadd h d_Mod_hearRenew_123 ?_
          refine j_istore h d_Mod_hearRenew_124 (Nat.lt_of_lt_of_eq (m := 11) (by decide) hN.symm) ?_
          refine j_aload_n h d_Mod_hearRenew_126 rfl ?_
          refine j_getR h d_Mod_hearRenew_127 fl_Mod_7 rfl (by assumption) (mP ms (a := 10) (by decide)) ?_
          refine j_iload_n h d_Mod_hearRenew_130 rfl ?_
          refine m_iald2 (a := 10) (L := 2) (j := s) h ms d_Mod_hearRenew_131 (by decide) rfl (by decide) rfl rfl (by omega) ?_
          refine j_iconst (v := 2) h d_Mod_hearRenew_132 (by decide) ?_
          refine j_ic_ne (tgt := 148) h d_Mod_hearRenew_133 (by decide) (fun c11 => ?_) (fun c11 => ?_)
          · refine j_iload h d_Mod_hearRenew_148 rfl ?_
            refine j_int (v' := (if C 0 s = 2 then ls_ (clk C s + x 6) (gr (C 18 (32 * s + a)) (clk C s) + ld) else clk C s + x 6)) (by clear hX h hl; first | (simp_all [ls_, up_rd]; done) | grind [ls_, up_rd]) ?_
            refine j_istore h d_Mod_hearRenew_150 (Nat.lt_of_lt_of_eq (m := 11) (by decide) hN.symm) ?_
            refine j_aload_n h d_Mod_hearRenew_152 rfl ?_
            refine j_getR h d_Mod_hearRenew_153 fl_Mod_40 rfl (by assumption) (mP ms (a := 20) (by decide)) ?_
            refine j_iload h d_Mod_hearRenew_156 rfl ?_
            refine j_aload_n h d_Mod_hearRenew_158 rfl ?_
            refine j_getR h d_Mod_hearRenew_159 fl_Mod_40 rfl (by assumption) (mP ms (a := 20) (by decide)) ?_
            refine j_iload h d_Mod_hearRenew_162 rfl ?_
            refine m_iald2 (a := 20) (L := 64) (j := (32 * s + a)) h ms d_Mod_hearRenew_164 (by decide) rfl (by decide) rfl rfl (by omega) ?_
            refine j_iload h d_Mod_hearRenew_165 rfl ?_
            refine j_callS h (c_Mod_greater _ _ _ _ _ _ _ _ _ _) d_Mod_hearRenew_167 ml_Mod_150 ms_Mod_greater rfl rfl (Nat.le_of_ble_eq_true rfl) (hR_of hX (by decide) (by decide)) (hf_of hX (by decide) (by decide)) ?_
            rintro _ _ _ _ ⟨rfl, rfl, rfl, rfl⟩
            refine m_iast2 (a := 20) (L := 64) (j := (32 * s + a)) h ms d_Mod_hearRenew_170 (by decide) rfl (by decide) rfl rfl (by omega) ?_
            have hE : rnw C (32 * s + a) s a ld (clk C s) (x 2) (x 6) (x 5) = (nI a, chg (up (up C 13 (32 * s + a) (x 5)) 12 (32 * s + a) (gr (C 12 (32 * s + a)) (if C 0 s = 2 then ls_ (clk C s + x 6) (gr (C 18 (32 * s + a)) (clk C s) + ld) else clk C s + x 6))) (32 * s + a)) := by unfold rnw; clear hX h hl; first | (simp_all; done) | grind
            refine j_aload_n h d_Mod_hearRenew_171 rfl ?_
            refine j_iload h d_Mod_hearRenew_172 rfl ?_
            refine j_callV h (c_Mod_change _ _ _ _ _ _ _ _ ms _ (by omega)) d_Mod_hearRenew_174 ml_Mod_140 mv_Mod_change (by assumption) ⟨rfl, rfl⟩ rfl rfl (Nat.le_of_ble_eq_true rfl) (hR_of hX (by decide) (by decide)) (hf_of hX (by decide) (by decide)) ?_
            rintro _ _ _ _ ⟨rfl, rfl, rfl, rfl⟩
            refine j_aload_n h d_Mod_hearRenew_177 rfl ?_
            refine j_iload_n h d_Mod_hearRenew_178 rfl ?_
            refine j_callV h (c_Mod_writes _ _ _ _ _ _ _ _ ms _ hs) d_Mod_hearRenew_179 ml_Mod_147 mv_Mod_writes (by assumption) ⟨rfl, rfl⟩ rfl rfl (Nat.le_of_ble_eq_true rfl) (hR_of hX (by decide) (by decide)) (hf_of hX (by decide) (by decide)) ?_
            rintro _ _ _ _ ⟨rfl, rfl, rfl, rfl⟩
            refine j_if_eq (tgt := 202) h d_Mod_hearRenew_182 (by decide) (fun c12 => ?_) (fun c12 => ?_)
            · exact j_vret hX d_Mod_hearRenew_202 rfl (Nat.le_refl _) (Nat.le_refl _) ⟨rfl, rfl, rfl, _, by rw [hrnA_y hE (by omega)]; rfl, by first | exact hk3 | exact DK.refl _, by first | (rw [hrnN_y hE (by omega) (b01_n0 (by assumption))]; exact hm3) | (rw [hrnN_d hE (by omega) (Decidable.byContradiction (b01_0.mp (by assumption)))]; exact hm)⟩
            · refine j_aload_n h d_Mod_hearRenew_185 rfl ?_
              refine j_iload_n h d_Mod_hearRenew_186 rfl ?_
              refine j_iload_n h d_Mod_hearRenew_187 rfl ?_
              refine j_iconst (v := 1) h d_Mod_hearRenew_188 (by decide) ?_
              refine j_iload_n h d_Mod_hearRenew_189 rfl ?_
              refine j_iload h d_Mod_hearRenew_190 rfl ?_
              refine j_aload_n h d_Mod_hearRenew_192 rfl ?_
              refine j_getR h d_Mod_hearRenew_193 fl_Mod_40 rfl (by assumption) (mP ms (a := 20) (by decide)) ?_
              refine j_iload h d_Mod_hearRenew_196 rfl ?_
              refine m_iald2 (a := 20) (L := 64) (j := (32 * s + a)) h ms d_Mod_hearRenew_198 (by decide) rfl (by decide) rfl rfl (by omega) ?_
              refine j_callV h (c_Mod_answer_yes _ _ _ _ _ _ _ _ ms _ hm _ hs _ _ _ _) d_Mod_hearRenew_199 ml_Mod_136 mv_Mod_answer (by assumption) ⟨rfl, rfl⟩ rfl rfl (Nat.le_of_ble_eq_true rfl) (hR_of hX (by decide) (by decide)) (hf_of hX (by decide) (by decide)) ?_
              rintro V3 _ _ P3 ⟨rfl, rfl, rfl, D3, rfl, hk3, hm3⟩
              exact j_vret hX d_Mod_hearRenew_202 rfl (Nat.le_refl _) (Nat.le_refl _) ⟨rfl, rfl, rfl, _, by rw [hrnA_y hE (by omega)]; rfl, by first | exact hk3 | exact DK.refl _, by first | (rw [hrnN_y hE (by omega) (b01_n0 (by assumption))]; exact hm3) | (rw [hrnN_d hE (by omega) (Decidable.byContradiction (b01_0.mp (by assumption)))]; exact hm)⟩
          · refine j_iload h d_Mod_hearRenew_136 rfl ?_
            refine j_iload h d_Mod_hearRenew_138 rfl ?_
            refine j_ic_le (tgt := 148) h d_Mod_hearRenew_140 (by decide) (fun c13 => ?_) (fun c13 => ?_)
            · refine j_iload h d_Mod_hearRenew_148 rfl ?_
              refine j_int (v' := (if C 0 s = 2 then ls_ (clk C s + x 6) (gr (C 18 (32 * s + a)) (clk C s) + ld) else clk C s + x 6)) (by clear hX h hl; first | (simp_all [ls_, up_rd]; done) | grind [ls_, up_rd]) ?_
              refine j_istore h d_Mod_hearRenew_150 (Nat.lt_of_lt_of_eq (m := 11) (by decide) hN.symm) ?_
              refine j_aload_n h d_Mod_hearRenew_152 rfl ?_
              refine j_getR h d_Mod_hearRenew_153 fl_Mod_40 rfl (by assumption) (mP ms (a := 20) (by decide)) ?_
              refine j_iload h d_Mod_hearRenew_156 rfl ?_
              refine j_aload_n h d_Mod_hearRenew_158 rfl ?_
              refine j_getR h d_Mod_hearRenew_159 fl_Mod_40 rfl (by assumption) (mP ms (a := 20) (by decide)) ?_
              refine j_iload h d_Mod_hearRenew_162 rfl ?_
              refine m_iald2 (a := 20) (L := 64) (j := (32 * s + a)) h ms d_Mod_hearRenew_164 (by decide) rfl (by decide) rfl rfl (by omega) ?_
              refine j_iload h d_Mod_hearRenew_165 rfl ?_
              refine j_callS h (c_Mod_greater _ _ _ _ _ _ _ _ _ _) d_Mod_hearRenew_167 ml_Mod_150 ms_Mod_greater rfl rfl (Nat.le_of_ble_eq_true rfl) (hR_of hX (by decide) (by decide)) (hf_of hX (by decide) (by decide)) ?_
              rintro _ _ _ _ ⟨rfl, rfl, rfl, rfl⟩
              refine m_iast2 (a := 20) (L := 64) (j := (32 * s + a)) h ms d_Mod_hearRenew_170 (by decide) rfl (by decide) rfl rfl (by omega) ?_
              have hE : rnw C (32 * s + a) s a ld (clk C s) (x 2) (x 6) (x 5) = (nI a, chg (up (up C 13 (32 * s + a) (x 5)) 12 (32 * s + a) (gr (C 12 (32 * s + a)) (if C 0 s = 2 then ls_ (clk C s + x 6) (gr (C 18 (32 * s + a)) (clk C s) + ld) else clk C s + x 6))) (32 * s + a)) := by unfold rnw; clear hX h hl; first | (simp_all; done) | grind
              refine j_aload_n h d_Mod_hearRenew_171 rfl ?_
              refine j_iload h d_Mod_hearRenew_172 rfl ?_
              refine j_callV h (c_Mod_change _ _ _ _ _ _ _ _ ms _ (by omega)) d_Mod_hearRenew_174 ml_Mod_140 mv_Mod_change (by assumption) ⟨rfl, rfl⟩ rfl rfl (Nat.le_of_ble_eq_true rfl) (hR_of hX (by decide) (by decide)) (hf_of hX (by decide) (by decide)) ?_
              rintro _ _ _ _ ⟨rfl, rfl, rfl, rfl⟩
              refine j_aload_n h d_Mod_hearRenew_177 rfl ?_
              refine j_iload_n h d_Mod_hearRenew_178 rfl ?_
              refine j_callV h (c_Mod_writes _ _ _ _ _ _ _ _ ms _ hs) d_Mod_hearRenew_179 ml_Mod_147 mv_Mod_writes (by assumption) ⟨rfl, rfl⟩ rfl rfl (Nat.le_of_ble_eq_true rfl) (hR_of hX (by decide) (by decide)) (hf_of hX (by decide) (by decide)) ?_
              rintro _ _ _ _ ⟨rfl, rfl, rfl, rfl⟩
              refine j_if_eq (tgt := 202) h d_Mod_hearRenew_182 (by decide) (fun c14 => ?_) (fun c14 => ?_)
              · exact j_vret hX d_Mod_hearRenew_202 rfl (Nat.le_refl _) (Nat.le_refl _) ⟨rfl, rfl, rfl, _, by rw [hrnA_y hE (by omega)]; rfl, by first | exact hk3 | exact DK.refl _, by first | (rw [hrnN_y hE (by omega) (b01_n0 (by assumption))]; exact hm3) | (rw [hrnN_d hE (by omega) (Decidable.byContradiction (b01_0.mp (by assumption)))]; exact hm)⟩
              · refine j_aload_n h d_Mod_hearRenew_185 rfl ?_
                refine j_iload_n h d_Mod_hearRenew_186 rfl ?_
                refine j_iload_n h d_Mod_hearRenew_187 rfl ?_
                refine j_iconst (v := 1) h d_Mod_hearRenew_188 (by decide) ?_
                refine j_iload_n h d_Mod_hearRenew_189 rfl ?_
                refine j_iload h d_Mod_hearRenew_190 rfl ?_
                refine j_aload_n h d_Mod_hearRenew_192 rfl ?_
                refine j_getR h d_Mod_hearRenew_193 fl_Mod_40 rfl (by assumption) (mP ms (a := 20) (by decide)) ?_
                refine j_iload h d_Mod_hearRenew_196 rfl ?_
                refine m_iald2 (a := 20) (L := 64) (j := (32 * s + a)) h ms d_Mod_hearRenew_198 (by decide) rfl (by decide) rfl rfl (by omega) ?_
                refine j_callV h (c_Mod_answer_yes _ _ _ _ _ _ _ _ ms _ hm _ hs _ _ _ _) d_Mod_hearRenew_199 ml_Mod_136 mv_Mod_answer (by assumption) ⟨rfl, rfl⟩ rfl rfl (Nat.le_of_ble_eq_true rfl) (hR_of hX (by decide) (by decide)) (hf_of hX (by decide) (by decide)) ?_
                rintro V3 _ _ P3 ⟨rfl, rfl, rfl, D3, rfl, hk3, hm3⟩
                exact j_vret hX d_Mod_hearRenew_202 rfl (Nat.le_refl _) (Nat.le_refl _) ⟨rfl, rfl, rfl, _, by rw [hrnA_y hE (by omega)]; rfl, by first | exact hk3 | exact DK.refl _, by first | (rw [hrnN_y hE (by omega) (b01_n0 (by assumption))]; exact hm3) | (rw [hrnN_d hE (by omega) (Decidable.byContradiction (b01_0.mp (by assumption)))]; exact hm)⟩
            · refine j_iload h d_Mod_hearRenew_143 rfl ?_
              refine j_goto (tgt := 150) h d_Mod_hearRenew_145 (by decide) ?_
              refine j_int (v' := (if C 0 s = 2 then ls_ (clk C s + x 6) (gr (C 18 (32 * s + a)) (clk C s) + ld) else clk C s + x 6)) (by clear hX h hl; first | (simp_all [ls_, up_rd]; done) | grind [ls_, up_rd]) ?_
              refine j_istore h d_Mod_hearRenew_150 (Nat.lt_of_lt_of_eq (m := 11) (by decide) hN.symm) ?_
              refine j_aload_n h d_Mod_hearRenew_152 rfl ?_
              refine j_getR h d_Mod_hearRenew_153 fl_Mod_40 rfl (by assumption) (mP ms (a := 20) (by decide)) ?_
              refine j_iload h d_Mod_hearRenew_156 rfl ?_
              refine j_aload_n h d_Mod_hearRenew_158 rfl ?_
              refine j_getR h d_Mod_hearRenew_159 fl_Mod_40 rfl (by assumption) (mP ms (a := 20) (by decide)) ?_
              refine j_iload h d_Mod_hearRenew_162 rfl ?_
              refine m_iald2 (a := 20) (L := 64) (j := (32 * s + a)) h ms d_Mod_hearRenew_164 (by decide) rfl (by decide) rfl rfl (by omega) ?_
              refine j_iload h d_Mod_hearRenew_165 rfl ?_
              refine j_callS h (c_Mod_greater _ _ _ _ _ _ _ _ _ _) d_Mod_hearRenew_167 ml_Mod_150 ms_Mod_greater rfl rfl (Nat.le_of_ble_eq_true rfl) (hR_of hX (by decide) (by decide)) (hf_of hX (by decide) (by decide)) ?_
              rintro _ _ _ _ ⟨rfl, rfl, rfl, rfl⟩
              refine m_iast2 (a := 20) (L := 64) (j := (32 * s + a)) h ms d_Mod_hearRenew_170 (by decide) rfl (by decide) rfl rfl (by omega) ?_
              have hE : rnw C (32 * s + a) s a ld (clk C s) (x 2) (x 6) (x 5) = (nI a, chg (up (up C 13 (32 * s + a) (x 5)) 12 (32 * s + a) (gr (C 12 (32 * s + a)) (if C 0 s = 2 then ls_ (clk C s + x 6) (gr (C 18 (32 * s + a)) (clk C s) + ld) else clk C s + x 6))) (32 * s + a)) := by unfold rnw; clear hX h hl; first | (simp_all; done) | grind
              refine j_aload_n h d_Mod_hearRenew_171 rfl ?_
              refine j_iload h d_Mod_hearRenew_172 rfl ?_
              refine j_callV h (c_Mod_change _ _ _ _ _ _ _ _ ms _ (by omega)) d_Mod_hearRenew_174 ml_Mod_140 mv_Mod_change (by assumption) ⟨rfl, rfl⟩ rfl rfl (Nat.le_of_ble_eq_true rfl) (hR_of hX (by decide) (by decide)) (hf_of hX (by decide) (by decide)) ?_
              rintro _ _ _ _ ⟨rfl, rfl, rfl, rfl⟩
              refine j_aload_n h d_Mod_hearRenew_177 rfl ?_
              refine j_iload_n h d_Mod_hearRenew_178 rfl ?_
              refine j_callV h (c_Mod_writes _ _ _ _ _ _ _ _ ms _ hs) d_Mod_hearRenew_179 ml_Mod_147 mv_Mod_writes (by assumption) ⟨rfl, rfl⟩ rfl rfl (Nat.le_of_ble_eq_true rfl) (hR_of hX (by decide) (by decide)) (hf_of hX (by decide) (by decide)) ?_
              rintro _ _ _ _ ⟨rfl, rfl, rfl, rfl⟩
              refine j_if_eq (tgt := 202) h d_Mod_hearRenew_182 (by decide) (fun c15 => ?_) (fun c15 => ?_)
              · exact j_vret hX d_Mod_hearRenew_202 rfl (Nat.le_refl _) (Nat.le_refl _) ⟨rfl, rfl, rfl, _, by rw [hrnA_y hE (by omega)]; rfl, by first | exact hk3 | exact DK.refl _, by first | (rw [hrnN_y hE (by omega) (b01_n0 (by assumption))]; exact hm3) | (rw [hrnN_d hE (by omega) (Decidable.byContradiction (b01_0.mp (by assumption)))]; exact hm)⟩
              · refine j_aload_n h d_Mod_hearRenew_185 rfl ?_
                refine j_iload_n h d_Mod_hearRenew_186 rfl ?_
                refine j_iload_n h d_Mod_hearRenew_187 rfl ?_
                refine j_iconst (v := 1) h d_Mod_hearRenew_188 (by decide) ?_
                refine j_iload_n h d_Mod_hearRenew_189 rfl ?_
                refine j_iload h d_Mod_hearRenew_190 rfl ?_
                refine j_aload_n h d_Mod_hearRenew_192 rfl ?_
                refine j_getR h d_Mod_hearRenew_193 fl_Mod_40 rfl (by assumption) (mP ms (a := 20) (by decide)) ?_
                refine j_iload h d_Mod_hearRenew_196 rfl ?_
                refine m_iald2 (a := 20) (L := 64) (j := (32 * s + a)) h ms d_Mod_hearRenew_198 (by decide) rfl (by decide) rfl rfl (by omega) ?_
                refine j_callV h (c_Mod_answer_yes _ _ _ _ _ _ _ _ ms _ hm _ hs _ _ _ _) d_Mod_hearRenew_199 ml_Mod_136 mv_Mod_answer (by assumption) ⟨rfl, rfl⟩ rfl rfl (Nat.le_of_ble_eq_true rfl) (hR_of hX (by decide) (by decide)) (hf_of hX (by decide) (by decide)) ?_
                rintro V3 _ _ P3 ⟨rfl, rfl, rfl, D3, rfl, hk3, hm3⟩
                exact j_vret hX d_Mod_hearRenew_202 rfl (Nat.le_refl _) (Nat.le_refl _) ⟨rfl, rfl, rfl, _, by rw [hrnA_y hE (by omega)]; rfl, by first | exact hk3 | exact DK.refl _, by first | (rw [hrnN_y hE (by omega) (b01_n0 (by assumption))]; exact hm3) | (rw [hrnN_d hE (by omega) (Decidable.byContradiction (b01_0.mp (by assumption)))]; exact hm)⟩
        · refine j_aload_n h d_Mod_hearRenew_79 rfl ?_
          refine j_iload_n h d_Mod_hearRenew_80 rfl ?_
          refine j_iload_n h d_Mod_hearRenew_81 rfl ?_
          refine j_iconst (v := 0) h d_Mod_hearRenew_82 (by decide) ?_
          refine j_iconst (v := 0) h d_Mod_hearRenew_83 (by decide) ?_
          refine j_iload h d_Mod_hearRenew_84 rfl ?_
          refine j_iconst (v := 0) h d_Mod_hearRenew_86 (by decide) ?_
          refine j_callV h (c_Mod_answer_no _ _ _ _ _ _ _ _ ms _ hm _ hs _ _ _ _) d_Mod_hearRenew_87 ml_Mod_136 mv_Mod_answer (by assumption) ⟨rfl, rfl⟩ rfl rfl (Nat.le_of_ble_eq_true rfl) (hR_of hX (by decide) (by decide)) (hf_of hX (by decide) (by decide)) ?_
          rintro V3 _ _ P3 ⟨rfl, rfl, rfl, D3, rfl, hk3, hm3⟩
          have hE : rnw C (32 * s + a) s a ld (clk C s) (x 2) (x 6) (x 5) = (-1, C) := by unfold rnw; clear hX h hl; first | (simp_all; done) | grind
          exact j_vret hX d_Mod_hearRenew_90 rfl (Nat.le_refl _) (Nat.le_refl _) ⟨rfl, rfl, rfl, D3, by rw [hrnA_n hE], hk3, by rw [hrnN_n hE h0]; exact hm3⟩
      · have hE : rnw C (32 * s + a) s a ld (clk C s) (x 2) (x 6) (x 5) = (-2, C) := by unfold rnw; clear hX h hl; first | (simp_all; done) | grind
        exact j_vret hX d_Mod_hearRenew_61 rfl (Nat.le_refl _) (Nat.le_refl _) ⟨rfl, rfl, rfl, D, by rw [hrnA_q hE], DK.refl _, by rw [hrnN_q hE]; exact hm⟩
