/-! the model: what a caller may ask, with loops -/
set_option maxRecDepth 100000 in
set_option maxHeartbeats 4000000 in
theorem c_Mod_server_ok (l : Launch) (K : Kx) (V : Vx) (A B C D : MI) (P : MP) (ms : MSt K V P) (N : List Msg) (hm : MN D N) (n : Nat) (ld sk : Int32) (hf : MF C n ld sk) (s : Nat) (hs : s < 2) (w : Nat) (hw : w < 9) : Ct l K md_Mod_server (1, 21) 0 0 [.ref (K.ad 6 0), .int (nI s), .int (nI w)] V (bk4 A B C D) P (MRp V A B P (some (.int (stell C s n (clk C s) w))) C 0 N) := by
  refine ct_of [(0, .ref (K.ad 6 0)), (1, .int (nI s)), (2, .int (nI w))] (by decide) (Nat.le_of_ble_eq_true rfl) (ca_r (ca_i (ca_i ca_n))) rfl ?_
  intro X hl hX
  have h : OkX X b_Mod_server R_Mod K := hX.1
  have hN : X.nL = 6 := hX.2.1
  have hmv := ms.1
  obtain ⟨D0, hD0⟩ : ∃ D0, D0 = up D 70 0 (if (1 : Int32) = 0 then 1 else 0) := ⟨_, rfl⟩
  have hm0 : MN D0 N := by rw [hD0]; exact MN_70 hm
  have e70 : D0 70 0 = 0 := by rw [hD0]; simp [up_rd]
  have hmD := hm
  clear hm
  obtain ⟨hn32, h42, h43, h44⟩ := hf
  have h01 := srv01 hs
  have w0 := nI_n0 (k := w) (by omega)
  have wg : ¬ (8 : Int32) < nI w := fun q => absurd ((nI_ltI (a := 8) (by decide) (by omega)).mp q) (by omega)
  have hL : ∀ (k j : Nat) (g1 g2 : Int32), j + k = n → cOwn C s n 0 0 = cOwn C s k j g1 ∧ cPen C s n 0 0 = cPen C s k j g2 → J X K V (bk4 A B C D0) P 0 0 40 [(0, .ref (K.ad 6 0)), (1, .int (nI s)), (2, .int (nI w)), (3, .int g1), (4, .int g2), (5, .int (nI j))] [] := by
    intro k
    induction k with
    | zero =>
      intro j g1 g2 hi hv
      have hi2 : n = j := by omega
      subst hi2
      refine j_iload h d_Mod_server_40 rfl ?_
      refine j_aload_n h d_Mod_server_42 rfl ?_
      refine j_get2e (v := nI n) h d_Mod_server_43 fl_Mod_98 rfl (by assumption) (by first | exact h42 | simpa [up_rd] using h42) ?_
      refine j_ic_ge (tgt := 104) h d_Mod_server_46 (by decide) (fun _ => ?_) (fun c => absurd (nI_le (Nat.le_refl _) (by omega)) c)
      have q1 : cOwn C s n 0 0 = g1 := hv.1
      have q2 : cPen C s n 0 0 = g2 := hv.2
      match w, hw with
      | 0, _ =>
        refine j_iload_n h d_Mod_server_104 rfl ?_
        refine j_tabIn (off := 47) (tgt := 152) h d_Mod_server_105 (by decide +kernel) (by decide +kernel) (by decide +kernel) (by decide) ?_
        refine j_aload_n h d_Mod_server_152 rfl ?_
        refine j_getR h d_Mod_server_153 fl_Mod_7 rfl (by assumption) (mP ms (a := 10) (by decide)) ?_
        refine j_iload_n h d_Mod_server_156 rfl ?_
        refine m_iald2 (a := 10) (L := 2) (j := s) h ms d_Mod_server_157 (by decide) rfl (by decide) rfl rfl (by omega) ?_
        exact j_iret hX d_Mod_server_158 rfl (Nat.le_refl _) (Nat.le_refl _) ⟨rfl, by clear hX h hl; first | rfl | (simp only [stell, q1, q2]; done) | (simp [stell, q1, q2]; done), rfl, D0, rfl, e70, hm0⟩
      | 1, _ =>
        refine j_iload_n h d_Mod_server_104 rfl ?_
        refine j_tabIn (off := 54) (tgt := 159) h d_Mod_server_105 (by decide +kernel) (by decide +kernel) (by decide +kernel) (by decide) ?_
        refine j_aload_n h d_Mod_server_159 rfl ?_
        refine j_iload_n h d_Mod_server_160 rfl ?_
        refine j_callV h (c_Mod_clock _ _ _ _ _ _ _ _ ms _ hs) d_Mod_server_161 ml_Mod_128 mv_Mod_clock (by assumption) ⟨rfl, rfl⟩ rfl rfl (Nat.le_of_ble_eq_true rfl) (hR_of hX (by decide) (by decide)) (hf_of hX (by decide) (by decide)) ?_
        rintro _ _ _ _ ⟨rfl, rfl, rfl, rfl⟩
        exact j_iret hX d_Mod_server_164 rfl (Nat.le_refl _) (Nat.le_refl _) ⟨rfl, by clear hX h hl; first | rfl | (simp only [stell, q1, q2]; done) | (simp [stell, q1, q2]; done), rfl, D0, rfl, e70, hm0⟩
      | 2, _ =>
        refine j_iload_n h d_Mod_server_104 rfl ?_
        refine j_tabIn (off := 60) (tgt := 165) h d_Mod_server_105 (by decide +kernel) (by decide +kernel) (by decide +kernel) (by decide) ?_
        refine j_aload_n h d_Mod_server_165 rfl ?_
        refine j_getR h d_Mod_server_166 fl_Mod_16 rfl (by assumption) (mP ms (a := 12) (by decide)) ?_
        refine j_iload_n h d_Mod_server_169 rfl ?_
        refine m_iald2 (a := 12) (L := 2) (j := s) h ms d_Mod_server_170 (by decide) rfl (by decide) rfl rfl (by omega) ?_
        exact j_iret hX d_Mod_server_171 rfl (Nat.le_refl _) (Nat.le_refl _) ⟨rfl, by clear hX h hl; first | rfl | (simp only [stell, q1, q2]; done) | (simp [stell, q1, q2]; done), rfl, D0, rfl, e70, hm0⟩
      | 3, _ =>
        refine j_iload_n h d_Mod_server_104 rfl ?_
        refine j_tabIn (off := 67) (tgt := 172) h d_Mod_server_105 (by decide +kernel) (by decide +kernel) (by decide +kernel) (by decide) ?_
        refine j_aload_n h d_Mod_server_172 rfl ?_
        refine j_getR h d_Mod_server_173 fl_Mod_22 rfl (by assumption) (mP ms (a := 14) (by decide)) ?_
        refine j_iload_n h d_Mod_server_176 rfl ?_
        refine m_iald2 (a := 14) (L := 2) (j := s) h ms d_Mod_server_177 (by decide) rfl (by decide) rfl rfl (by omega) ?_
        exact j_iret hX d_Mod_server_178 rfl (Nat.le_refl _) (Nat.le_refl _) ⟨rfl, by clear hX h hl; first | rfl | (simp only [stell, q1, q2]; done) | (simp [stell, q1, q2]; done), rfl, D0, rfl, e70, hm0⟩
      | 4, _ =>
        refine j_iload_n h d_Mod_server_104 rfl ?_
        refine j_tabIn (off := 74) (tgt := 179) h d_Mod_server_105 (by decide +kernel) (by decide +kernel) (by decide +kernel) (by decide) ?_
        refine j_aload_n h d_Mod_server_179 rfl ?_
        refine j_getR h d_Mod_server_180 fl_Mod_19 rfl (by assumption) (mP ms (a := 13) (by decide)) ?_
        refine j_iload_n h d_Mod_server_183 rfl ?_
        refine m_iald2 (a := 13) (L := 2) (j := s) h ms d_Mod_server_184 (by decide) rfl (by decide) rfl rfl (by omega) ?_
        exact j_iret hX d_Mod_server_185 rfl (Nat.le_refl _) (Nat.le_refl _) ⟨rfl, by clear hX h hl; first | rfl | (simp only [stell, q1, q2]; done) | (simp [stell, q1, q2]; done), rfl, D0, rfl, e70, hm0⟩
      | 5, _ =>
        refine j_iload_n h d_Mod_server_104 rfl ?_
        refine j_tabIn (off := 81) (tgt := 186) h d_Mod_server_105 (by decide +kernel) (by decide +kernel) (by decide +kernel) (by decide) ?_
        refine j_aload_n h d_Mod_server_186 rfl ?_
        refine j_getR h d_Mod_server_187 fl_Mod_25 rfl (by assumption) (mP ms (a := 15) (by decide)) ?_
        refine j_iload_n h d_Mod_server_190 rfl ?_
        refine m_iald2 (a := 15) (L := 2) (j := s) h ms d_Mod_server_191 (by decide) rfl (by decide) rfl rfl (by omega) ?_
        exact j_iret hX d_Mod_server_192 rfl (Nat.le_refl _) (Nat.le_refl _) ⟨rfl, by clear hX h hl; first | rfl | (simp only [stell, q1, q2]; done) | (simp [stell, q1, q2]; done), rfl, D0, rfl, e70, hm0⟩
      | 6, _ =>
        refine j_iload_n h d_Mod_server_104 rfl ?_
        refine j_tabIn (off := 88) (tgt := 193) h d_Mod_server_105 (by decide +kernel) (by decide +kernel) (by decide +kernel) (by decide) ?_
        refine j_iload_n h d_Mod_server_193 rfl ?_
        exact j_iret hX d_Mod_server_194 rfl (Nat.le_refl _) (Nat.le_refl _) ⟨rfl, by clear hX h hl; first | rfl | (simp only [stell, q1, q2]; done) | (simp [stell, q1, q2]; done), rfl, D0, rfl, e70, hm0⟩
      | 7, _ =>
        refine j_iload_n h d_Mod_server_104 rfl ?_
        refine j_tabIn (off := 90) (tgt := 195) h d_Mod_server_105 (by decide +kernel) (by decide +kernel) (by decide +kernel) (by decide) ?_
        refine j_iload h d_Mod_server_195 rfl ?_
        exact j_iret hX d_Mod_server_197 rfl (Nat.le_refl _) (Nat.le_refl _) ⟨rfl, by clear hX h hl; first | rfl | (simp only [stell, q1, q2]; done) | (simp [stell, q1, q2]; done), rfl, D0, rfl, e70, hm0⟩
      | 8, _ =>
        refine j_iload_n h d_Mod_server_104 rfl ?_
        refine j_tabOut (tgt := 198) h d_Mod_server_105 (by decide +kernel) (by decide) ?_
        refine j_aload_n h d_Mod_server_198 rfl ?_
        refine j_getR h d_Mod_server_199 fl_Mod_31 rfl (by assumption) (mP ms (a := 17) (by decide)) ?_
        refine j_iload_n h d_Mod_server_202 rfl ?_
        refine m_iald2 (a := 17) (L := 2) (j := s) h ms d_Mod_server_203 (by decide) rfl (by decide) rfl rfl (by omega) ?_
        exact j_iret hX d_Mod_server_204 rfl (Nat.le_refl _) (Nat.le_refl _) ⟨rfl, by clear hX h hl; first | rfl | (simp only [stell, q1, q2]; done) | (simp [stell, q1, q2]; done), rfl, D0, rfl, e70, hm0⟩
      | k + 9, hk => exact absurd hk (by omega)
    | succ k ih =>
      intro j g1 g2 hi hv
      have hi2 : j < n := by omega
      refine j_iload h d_Mod_server_40 rfl ?_
      refine j_aload_n h d_Mod_server_42 rfl ?_
      refine j_get2e (v := nI n) h d_Mod_server_43 fl_Mod_98 rfl (by assumption) (by first | exact h42 | simpa [up_rd] using h42) ?_
      refine j_ic_ge (tgt := 104) h d_Mod_server_46 (by decide) (fun c => absurd c (nI_ge hi2 (by omega))) (fun _ => ?_)
      refine j_iload_n h d_Mod_server_49 rfl ?_
      refine j_aload_n h d_Mod_server_50 rfl ?_
      refine j_getR h d_Mod_server_51 fl_Mod_34 rfl (by assumption) (mP ms (a := 18) (by decide)) ?_
      refine j_bipush (v := 32) h d_Mod_server_54 (by decide) ?_
      refine j_iload_n h d_Mod_server_56 rfl ?_
      refine j_imul h d_Mod_server_57 ?_
      refine j_iload h d_Mod_server_58 rfl ?_
      refine j_ix32 (s := s) (a := j) h d_Mod_server_60 ?_
      refine m_iald2 (a := 18) (L := 64) (j := (32 * s + j)) h ms d_Mod_server_61 (by decide) rfl (by decide) rfl rfl (by omega) ?_
      refine j_iconst (v := 1) h d_Mod_server_62 (by decide) ?_
      refine j_ic_ne (tgt := 70) h d_Mod_server_63 (by decide) (fun c1 => ?_) (fun c1 => ?_)
      · refine j_iconst (v := 0) h d_Mod_server_70 (by decide) ?_
        refine j_iadd h d_Mod_server_71 ?_
        refine j_istore_n h d_Mod_server_72 (Nat.lt_of_lt_of_eq (m := 6) (by decide) hN.symm) ?_
        refine j_iload h d_Mod_server_73 rfl ?_
        refine j_aload_n h d_Mod_server_75 rfl ?_
        refine j_getR h d_Mod_server_76 fl_Mod_56 rfl (by assumption) (mP ms (a := 25) (by decide)) ?_
        refine j_bipush (v := 32) h d_Mod_server_79 (by decide) ?_
        refine j_iload_n h d_Mod_server_81 rfl ?_
        refine j_imul h d_Mod_server_82 ?_
        refine j_iload h d_Mod_server_83 rfl ?_
        refine j_ix32 (s := s) (a := j) h d_Mod_server_85 ?_
        refine m_zald2 (a := 25) (L := 64) (j := (32 * s + j)) h ms d_Mod_server_86 (by decide) rfl (by decide) rfl rfl (by omega) ?_
        refine j_if_eq (tgt := 94) h d_Mod_server_87 (by decide) (fun c2 => ?_) (fun c2 => ?_)
        · refine j_iconst (v := 0) h d_Mod_server_94 (by decide) ?_
          refine j_iadd h d_Mod_server_95 ?_
          refine j_istore h d_Mod_server_96 (Nat.lt_of_lt_of_eq (m := 6) (by decide) hN.symm) ?_
          refine j_iinc (v := nI (j + 1)) h d_Mod_server_98 rfl (nI_i j) (Nat.lt_of_lt_of_eq (m := 6) (by decide) hN.symm) ?_
          refine j_goto (tgt := 40) h d_Mod_server_101 (by decide) ?_
          refine j_lv (lv' := [(0, .ref (K.ad 6 0)), (1, .int (nI s)), (2, .int (nI w)), (3, .int _), (4, .int _), (5, .int (nI (j + 1)))]) (lvs rfl (lvs rfl (lvs rfl (lvs rfl (lvs rfl (lvs rfl lvs0)))))) ?_
          exact ih (j + 1) _ _ (by omega) ⟨hv.1.trans (by rw [cOwn]; clear ih hX h hl; congr 1; first | (simp_all; done) | grind), hv.2.trans (by rw [cPen]; clear ih hX h hl; congr 1; first | (simp_all; done) | grind)⟩
        · refine j_iconst (v := 1) h d_Mod_server_90 (by decide) ?_
          refine j_goto (tgt := 95) h d_Mod_server_91 (by decide) ?_
          refine j_iadd h d_Mod_server_95 ?_
          refine j_istore h d_Mod_server_96 (Nat.lt_of_lt_of_eq (m := 6) (by decide) hN.symm) ?_
          refine j_iinc (v := nI (j + 1)) h d_Mod_server_98 rfl (nI_i j) (Nat.lt_of_lt_of_eq (m := 6) (by decide) hN.symm) ?_
          refine j_goto (tgt := 40) h d_Mod_server_101 (by decide) ?_
          refine j_lv (lv' := [(0, .ref (K.ad 6 0)), (1, .int (nI s)), (2, .int (nI w)), (3, .int _), (4, .int _), (5, .int (nI (j + 1)))]) (lvs rfl (lvs rfl (lvs rfl (lvs rfl (lvs rfl (lvs rfl lvs0)))))) ?_
          exact ih (j + 1) _ _ (by omega) ⟨hv.1.trans (by rw [cOwn]; clear ih hX h hl; congr 1; first | (simp_all; done) | grind), hv.2.trans (by rw [cPen]; clear ih hX h hl; congr 1; first | (simp_all; done) | grind)⟩
      · refine j_iconst (v := 1) h d_Mod_server_66 (by decide) ?_
        refine j_goto (tgt := 71) h d_Mod_server_67 (by decide) ?_
        refine j_iadd h d_Mod_server_71 ?_
        refine j_istore_n h d_Mod_server_72 (Nat.lt_of_lt_of_eq (m := 6) (by decide) hN.symm) ?_
        refine j_iload h d_Mod_server_73 rfl ?_
        refine j_aload_n h d_Mod_server_75 rfl ?_
        refine j_getR h d_Mod_server_76 fl_Mod_56 rfl (by assumption) (mP ms (a := 25) (by decide)) ?_
        refine j_bipush (v := 32) h d_Mod_server_79 (by decide) ?_
        refine j_iload_n h d_Mod_server_81 rfl ?_
        refine j_imul h d_Mod_server_82 ?_
        refine j_iload h d_Mod_server_83 rfl ?_
        refine j_ix32 (s := s) (a := j) h d_Mod_server_85 ?_
        refine m_zald2 (a := 25) (L := 64) (j := (32 * s + j)) h ms d_Mod_server_86 (by decide) rfl (by decide) rfl rfl (by omega) ?_
        refine j_if_eq (tgt := 94) h d_Mod_server_87 (by decide) (fun c3 => ?_) (fun c3 => ?_)
        · refine j_iconst (v := 0) h d_Mod_server_94 (by decide) ?_
          refine j_iadd h d_Mod_server_95 ?_
          refine j_istore h d_Mod_server_96 (Nat.lt_of_lt_of_eq (m := 6) (by decide) hN.symm) ?_
          refine j_iinc (v := nI (j + 1)) h d_Mod_server_98 rfl (nI_i j) (Nat.lt_of_lt_of_eq (m := 6) (by decide) hN.symm) ?_
          refine j_goto (tgt := 40) h d_Mod_server_101 (by decide) ?_
          refine j_lv (lv' := [(0, .ref (K.ad 6 0)), (1, .int (nI s)), (2, .int (nI w)), (3, .int _), (4, .int _), (5, .int (nI (j + 1)))]) (lvs rfl (lvs rfl (lvs rfl (lvs rfl (lvs rfl (lvs rfl lvs0)))))) ?_
          exact ih (j + 1) _ _ (by omega) ⟨hv.1.trans (by rw [cOwn]; clear ih hX h hl; congr 1; first | (simp_all; done) | grind), hv.2.trans (by rw [cPen]; clear ih hX h hl; congr 1; first | (simp_all; done) | grind)⟩
        · refine j_iconst (v := 1) h d_Mod_server_90 (by decide) ?_
          refine j_goto (tgt := 95) h d_Mod_server_91 (by decide) ?_
          refine j_iadd h d_Mod_server_95 ?_
          refine j_istore h d_Mod_server_96 (Nat.lt_of_lt_of_eq (m := 6) (by decide) hN.symm) ?_
          refine j_iinc (v := nI (j + 1)) h d_Mod_server_98 rfl (nI_i j) (Nat.lt_of_lt_of_eq (m := 6) (by decide) hN.symm) ?_
          refine j_goto (tgt := 40) h d_Mod_server_101 (by decide) ?_
          refine j_lv (lv' := [(0, .ref (K.ad 6 0)), (1, .int (nI s)), (2, .int (nI w)), (3, .int _), (4, .int _), (5, .int (nI (j + 1)))]) (lvs rfl (lvs rfl (lvs rfl (lvs rfl (lvs rfl (lvs rfl lvs0)))))) ?_
          exact ih (j + 1) _ _ (by omega) ⟨hv.1.trans (by rw [cOwn]; clear ih hX h hl; congr 1; first | (simp_all; done) | grind), hv.2.trans (by rw [cPen]; clear ih hX h hl; congr 1; first | (simp_all; done) | grind)⟩
  refine j_aload_n h d_Mod_server_0 rfl ?_
  refine j_aload_n h d_Mod_server_1 rfl ?_
  refine j_iload_n h d_Mod_server_2 rfl ?_
  refine j_callV h (c_Mod_isServer _ _ _ _ _ _ _ _ ms _) d_Mod_server_3 ml_Mod_206 mv_Mod_isServer (by assumption) ⟨rfl, rfl⟩ rfl rfl (Nat.le_of_ble_eq_true rfl) (hR_of hX (by decide) (by decide)) (hf_of hX (by decide) (by decide)) ?_
  rintro _ _ _ _ ⟨rfl, rfl, rfl, rfl⟩
  refine j_if_eq (tgt := 23) h d_Mod_server_6 (by decide) (fun c1 => ?_) (fun c1 => ?_)
  · refine j_iconst (v := 0) h d_Mod_server_23 (by decide) ?_
    exfalso
    clear hX h hl
    first | (simp_all [wn, b01_0, b01_1]; done) | grind [wn, b01_0, b01_1]
  · refine j_iload_n h d_Mod_server_9 rfl ?_
    refine j_if_lt (tgt := 23) h d_Mod_server_10 (by decide) (fun c2 => ?_) (fun c2 => ?_)
    · refine j_iconst (v := 0) h d_Mod_server_23 (by decide) ?_
      exfalso
      clear hX h hl
      first | (simp_all [wn, b01_0, b01_1]; done) | grind [wn, b01_0, b01_1]
    · refine j_iload_n h d_Mod_server_13 rfl ?_
      refine j_bipush (v := 8) h d_Mod_server_14 (by decide) ?_
      refine j_ic_gt (tgt := 23) h d_Mod_server_16 (by decide) (fun c3 => ?_) (fun c3 => ?_)
      · refine j_iconst (v := 0) h d_Mod_server_23 (by decide) ?_
        exfalso
        clear hX h hl
        first | (simp_all [wn, b01_0, b01_1]; done) | grind [wn, b01_0, b01_1]
      · refine j_iconst (v := 1) h d_Mod_server_19 (by decide) ?_
        refine j_goto (tgt := 24) h d_Mod_server_20 (by decide) ?_
        refine j_callV h (c_Mod_isRight _ _ _ _ _ _ _ _ ms _ (by first | exact Or.inl rfl | exact Or.inr rfl)) d_Mod_server_24 ml_Mod_202 mv_Mod_isRight (by assumption) ⟨rfl, rfl⟩ rfl rfl (Nat.le_of_ble_eq_true rfl) (hR_of hX (by decide) (by decide)) (hf_of hX (by decide) (by decide)) ?_
        rintro _ _ _ _ ⟨rfl, rfl, rfl, rfl⟩
        rw [← hD0]
        refine j_if_ne (tgt := 32) h d_Mod_server_27 (by decide) (fun c4 => ?_) (fun c4 => absurd c4 (by decide))
        refine j_iconst (v := 0) h d_Mod_server_32 (by decide) ?_
        refine j_istore_n h d_Mod_server_33 (Nat.lt_of_lt_of_eq (m := 6) (by decide) hN.symm) ?_
        refine j_iconst (v := 0) h d_Mod_server_34 (by decide) ?_
        refine j_istore h d_Mod_server_35 (Nat.lt_of_lt_of_eq (m := 6) (by decide) hN.symm) ?_
        refine j_iconst (v := 0) h d_Mod_server_37 (by decide) ?_
        refine j_istore h d_Mod_server_38 (Nat.lt_of_lt_of_eq (m := 6) (by decide) hN.symm) ?_
        refine j_lv (lv' := [(0, .ref (K.ad 6 0)), (1, .int (nI s)), (2, .int (nI w)), (3, .int 0), (4, .int 0), (5, .int (nI 0))]) (lvs rfl (lvs rfl (lvs rfl (lvs rfl (lvs rfl (lvs rfl lvs0)))))) ?_
        exact hL n 0 0 0 (by omega) ⟨rfl, rfl⟩
set_option maxRecDepth 100000 in
set_option maxHeartbeats 4000000 in
theorem c_Mod_partnerDown_ok (l : Launch) (K : Kx) (V : Vx) (A B C D : MI) (P : MP) (ms : MSt K V P) (N : List Msg) (hm : MN D N) (n : Nat) (ld sk : Int32) (hf : MF C n ld sk) (s : Nat) (hs : s < 2) : Ct l K md_Mod_partnerDown (1, 21) 0 0 [.ref (K.ad 6 0), .int (nI s)] V (bk4 A B C D) P (MRp V A B P (some (.int (b01 (C 0 s = 2 ∧ C 0 (1 - s) = 0)))) (if (C 0 s = 2 ∧ C 0 (1 - s) = 0) then wr (solR s n 0 (up (up C 0 s 3) 5 s (clk C s))) s else C) 0 N) := by
  refine ct_of [(0, .ref (K.ad 6 0)), (1, .int (nI s))] (by decide) (Nat.le_of_ble_eq_true rfl) (ca_r (ca_i ca_n)) rfl ?_
  intro X hl hX
  have h : OkX X b_Mod_partnerDown R_Mod K := hX.1
  have hN : X.nL = 3 := hX.2.1
  have hmv := ms.1
  obtain ⟨D0, hD0⟩ : ∃ D0, D0 = up D 70 0 (if (1 : Int32) = 0 then 1 else 0) := ⟨_, rfl⟩
  have hm0 : MN D0 N := by rw [hD0]; exact MN_70 hm
  have e70 : D0 70 0 = 0 := by rw [hD0]; simp [up_rd]
  have hmD := hm
  clear hm
  obtain ⟨hn32, h42, h43, h44⟩ := hf
  have h01 := srv01 hs
  have hS : (C 0 s = 2 ∧ C 0 (1 - s) = 0) → J X K V (bk4 A B (up (up C 0 s 3) 5 s (clk C s)) D0) P 0 0 53 [(0, .ref (K.ad 6 0)), (1, .int (nI s))] [] := by
    intro hp
    have hL : ∀ (k j : Nat) (C1 : MI), j + k = n → C1 42 0 = nI n ∧ solR s n 0 (up (up C 0 s 3) 5 s (clk C s)) = solR s k j C1 → J X K V (bk4 A B C1 D0) P 0 0 55 [(0, .ref (K.ad 6 0)), (1, .int (nI s)), (2, .int (nI j))] [] := by
      intro k
      induction k with
      | zero =>
        intro j C1 hi hv
        have hi2 : n = j := by omega
        subst hi2
        have h42 := hv.1
        refine j_iload_n h d_Mod_partnerDown_55 rfl ?_
        refine j_aload_n h d_Mod_partnerDown_56 rfl ?_
        refine j_get2e (v := nI n) h d_Mod_partnerDown_57 fl_Mod_98 rfl (by assumption) (by first | exact h42 | simpa [up_rd] using h42) ?_
        refine j_ic_ge (tgt := 100) h d_Mod_partnerDown_60 (by decide) (fun _ => ?_) (fun c => absurd (nI_le (Nat.le_refl _) (by omega)) c)
        refine j_aload_n h d_Mod_partnerDown_100 rfl ?_
        refine j_iload_n h d_Mod_partnerDown_101 rfl ?_
        refine j_callV h (c_Mod_writes _ _ _ _ _ _ _ _ ms _ hs) d_Mod_partnerDown_102 ml_Mod_147 mv_Mod_writes (by assumption) ⟨rfl, rfl⟩ rfl rfl (Nat.le_of_ble_eq_true rfl) (hR_of hX (by decide) (by decide)) (hf_of hX (by decide) (by decide)) ?_
        rintro _ _ _ _ ⟨rfl, rfl, rfl, rfl⟩
        refine j_istore_n h d_Mod_partnerDown_105 (Nat.lt_of_lt_of_eq (m := 3) (by decide) hN.symm) ?_
        refine j_iconst (v := 1) h d_Mod_partnerDown_106 (by decide) ?_
        exact j_zret hX d_Mod_partnerDown_107 rfl (by first | exact Or.inl rfl | exact Or.inr rfl | exact b01_z _ | assumption) (Nat.le_refl _) (Nat.le_refl _) ⟨rfl, by rw [b01_t hp], rfl, D0, by rw [if_pos hp, hv.2]; rfl, e70, hm0⟩
      | succ k ih =>
        intro j C1 hi hv
        have hi2 : j < n := by omega
        have h42 := hv.1
        refine j_iload_n h d_Mod_partnerDown_55 rfl ?_
        refine j_aload_n h d_Mod_partnerDown_56 rfl ?_
        refine j_get2e (v := nI n) h d_Mod_partnerDown_57 fl_Mod_98 rfl (by assumption) (by first | exact h42 | simpa [up_rd] using h42) ?_
        refine j_ic_ge (tgt := 100) h d_Mod_partnerDown_60 (by decide) (fun c => absurd c (nI_ge hi2 (by omega))) (fun _ => ?_)
        refine j_aload_n h d_Mod_partnerDown_63 rfl ?_
        refine j_getR h d_Mod_partnerDown_64 fl_Mod_68 rfl (by assumption) (mP ms (a := 29) (by decide)) ?_
        refine j_bipush (v := 32) h d_Mod_partnerDown_67 (by decide) ?_
        refine j_iload_n h d_Mod_partnerDown_69 rfl ?_
        refine j_imul h d_Mod_partnerDown_70 ?_
        refine j_iload_n h d_Mod_partnerDown_71 rfl ?_
        refine j_ix32 (s := s) (a := j) h d_Mod_partnerDown_72 ?_
        refine j_aload_n h d_Mod_partnerDown_73 rfl ?_
        refine j_getR h d_Mod_partnerDown_74 fl_Mod_34 rfl (by assumption) (mP ms (a := 18) (by decide)) ?_
        refine j_bipush (v := 32) h d_Mod_partnerDown_77 (by decide) ?_
        refine j_iload_n h d_Mod_partnerDown_79 rfl ?_
        refine j_imul h d_Mod_partnerDown_80 ?_
        refine j_iload_n h d_Mod_partnerDown_81 rfl ?_
        refine j_ix32 (s := s) (a := j) h d_Mod_partnerDown_82 ?_
        refine m_iald2 (a := 18) (L := 64) (j := (32 * s + j)) h ms d_Mod_partnerDown_83 (by decide) rfl (by decide) rfl rfl (by omega) ?_
        refine j_iconst (v := 1) h d_Mod_partnerDown_84 (by decide) ?_
        refine j_ic_ne (tgt := 92) h d_Mod_partnerDown_85 (by decide) (fun c1 => ?_) (fun c1 => ?_)
        · refine j_iconst (v := 0) h d_Mod_partnerDown_92 (by decide) ?_
          refine m_zast2 (a := 29) (L := 64) (j := (32 * s + j)) h ms d_Mod_partnerDown_93 (by decide) rfl (by decide) rfl rfl (by omega) (by first | exact Or.inl rfl | exact Or.inr rfl | exact b01_z _ | assumption) ?_
          refine j_iinc (v := nI (j + 1)) h d_Mod_partnerDown_94 rfl (nI_i j) (Nat.lt_of_lt_of_eq (m := 3) (by decide) hN.symm) ?_
          refine j_goto (tgt := 55) h d_Mod_partnerDown_97 (by decide) ?_
          refine j_lv (lv' := [(0, .ref (K.ad 6 0)), (1, .int (nI s)), (2, .int (nI (j + 1)))]) (lvs rfl (lvs rfl (lvs rfl lvs0))) ?_
          exact ih (j + 1) _ (by omega) ⟨by rw [up_c _ _ (by decide)]; exact hv.1, hv.2.trans (by rw [solR]; clear ih hX h hl; congr 1; funext cc ii; first | (simp_all [b01, up_rd]; done) | grind [b01, up_rd])⟩
        · refine j_iconst (v := 1) h d_Mod_partnerDown_88 (by decide) ?_
          refine j_goto (tgt := 93) h d_Mod_partnerDown_89 (by decide) ?_
          refine m_zast2 (a := 29) (L := 64) (j := (32 * s + j)) h ms d_Mod_partnerDown_93 (by decide) rfl (by decide) rfl rfl (by omega) (by first | exact Or.inl rfl | exact Or.inr rfl | exact b01_z _ | assumption) ?_
          refine j_iinc (v := nI (j + 1)) h d_Mod_partnerDown_94 rfl (nI_i j) (Nat.lt_of_lt_of_eq (m := 3) (by decide) hN.symm) ?_
          refine j_goto (tgt := 55) h d_Mod_partnerDown_97 (by decide) ?_
          refine j_lv (lv' := [(0, .ref (K.ad 6 0)), (1, .int (nI s)), (2, .int (nI (j + 1)))]) (lvs rfl (lvs rfl (lvs rfl lvs0))) ?_
          exact ih (j + 1) _ (by omega) ⟨by rw [up_c _ _ (by decide)]; exact hv.1, hv.2.trans (by rw [solR]; clear ih hX h hl; congr 1; funext cc ii; first | (simp_all [b01, up_rd]; done) | grind [b01, up_rd])⟩
    refine j_iconst (v := 0) h d_Mod_partnerDown_53 (by decide) ?_
    refine j_istore_n h d_Mod_partnerDown_54 (Nat.lt_of_lt_of_eq (m := 3) (by decide) hN.symm) ?_
    refine j_lv (lv' := [(0, .ref (K.ad 6 0)), (1, .int (nI s)), (2, .int (nI 0))]) (lvs rfl (lvs rfl (lvs rfl lvs0))) ?_
    exact hL n 0 _ (by omega) ⟨h42, rfl⟩
  refine j_aload_n h d_Mod_partnerDown_0 rfl ?_
  refine j_aload_n h d_Mod_partnerDown_1 rfl ?_
  refine j_iload_n h d_Mod_partnerDown_2 rfl ?_
  refine j_callV h (c_Mod_isServer _ _ _ _ _ _ _ _ ms _) d_Mod_partnerDown_3 ml_Mod_206 mv_Mod_isServer (by assumption) ⟨rfl, rfl⟩ rfl rfl (Nat.le_of_ble_eq_true rfl) (hR_of hX (by decide) (by decide)) (hf_of hX (by decide) (by decide)) ?_
  rintro _ _ _ _ ⟨rfl, rfl, rfl, rfl⟩
  refine j_int (v' := 1) (by first | exact b01_t (by clear hX h hl; first | (simp_all [wn, b01_0, b01_1]; done) | grind [wn, b01_0, b01_1]) | (clear hX h hl; first | (simp_all [wn, b01_0, b01_1]; done) | grind [wn, b01_0, b01_1])) ?_
  refine j_callV h (c_Mod_isRight _ _ _ _ _ _ _ _ ms _ (by first | exact Or.inl rfl | exact Or.inr rfl)) d_Mod_partnerDown_6 ml_Mod_202 mv_Mod_isRight (by assumption) ⟨rfl, rfl⟩ rfl rfl (Nat.le_of_ble_eq_true rfl) (hR_of hX (by decide) (by decide)) (hf_of hX (by decide) (by decide)) ?_
  rintro _ _ _ _ ⟨rfl, rfl, rfl, rfl⟩
  rw [← hD0]
  refine j_if_eq (tgt := 33) h d_Mod_partnerDown_9 (by decide) (fun c1 => absurd c1 (by decide)) (fun c1 => ?_)
  refine j_aload_n h d_Mod_partnerDown_12 rfl ?_
  refine j_getR h d_Mod_partnerDown_13 fl_Mod_7 rfl (by assumption) (mP ms (a := 10) (by decide)) ?_
  refine j_iload_n h d_Mod_partnerDown_16 rfl ?_
  refine m_iald2 (a := 10) (L := 2) (j := s) h ms d_Mod_partnerDown_17 (by decide) rfl (by decide) rfl rfl (by omega) ?_
  refine j_iconst (v := 2) h d_Mod_partnerDown_18 (by decide) ?_
  refine j_ic_ne (tgt := 33) h d_Mod_partnerDown_19 (by decide) (fun c2 => ?_) (fun c2 => ?_)
  · refine j_iconst (v := 0) h d_Mod_partnerDown_33 (by decide) ?_
    exact j_zret hX d_Mod_partnerDown_34 rfl (by first | exact Or.inl rfl | exact Or.inr rfl | exact b01_z _ | assumption) (Nat.le_refl _) (Nat.le_refl _) ⟨rfl, by clear hX h hl hS; first | (simp_all [b01]; done) | grind [b01], rfl, D0, by clear hX h hl hS; first | (simp_all; done) | grind, e70, hm0⟩
  · refine j_aload_n h d_Mod_partnerDown_22 rfl ?_
    refine j_getR h d_Mod_partnerDown_23 fl_Mod_7 rfl (by assumption) (mP ms (a := 10) (by decide)) ?_
    refine j_iconst (v := 1) h d_Mod_partnerDown_26 (by decide) ?_
    refine j_iload_n h d_Mod_partnerDown_27 rfl ?_
    refine j_1s h hs d_Mod_partnerDown_28 ?_
    refine m_iald2 (a := 10) (L := 2) (j := (1 - s)) h ms d_Mod_partnerDown_29 (by decide) rfl (by decide) rfl rfl (by omega) ?_
    refine j_if_eq (tgt := 35) h d_Mod_partnerDown_30 (by decide) (fun c3 => ?_) (fun c3 => ?_)
    · refine j_aload_n h d_Mod_partnerDown_35 rfl ?_
      refine j_getR h d_Mod_partnerDown_36 fl_Mod_7 rfl (by assumption) (mP ms (a := 10) (by decide)) ?_
      refine j_iload_n h d_Mod_partnerDown_39 rfl ?_
      refine j_iconst (v := 3) h d_Mod_partnerDown_40 (by decide) ?_
      refine m_iast2 (a := 10) (L := 2) (j := s) h ms d_Mod_partnerDown_41 (by decide) rfl (by decide) rfl rfl (by omega) ?_
      refine j_aload_n h d_Mod_partnerDown_42 rfl ?_
      refine j_getR h d_Mod_partnerDown_43 fl_Mod_25 rfl (by assumption) (mP ms (a := 15) (by decide)) ?_
      refine j_iload_n h d_Mod_partnerDown_46 rfl ?_
      refine j_aload_n h d_Mod_partnerDown_47 rfl ?_
      refine j_iload_n h d_Mod_partnerDown_48 rfl ?_
      refine j_callV h (c_Mod_clock _ _ _ _ _ _ _ _ ms _ hs) d_Mod_partnerDown_49 ml_Mod_128 mv_Mod_clock (by assumption) ⟨rfl, rfl⟩ rfl rfl (Nat.le_of_ble_eq_true rfl) (hR_of hX (by decide) (by decide)) (hf_of hX (by decide) (by decide)) ?_
      rintro _ _ _ _ ⟨rfl, rfl, rfl, rfl⟩
      refine m_iast2 (a := 15) (L := 2) (j := s) h ms d_Mod_partnerDown_52 (by decide) rfl (by decide) rfl rfl (by omega) ?_
      refine j_lv (lv' := [(0, .ref (K.ad 6 0)), (1, .int (nI s))]) (lvs rfl (lvs rfl lvs0)) ?_
      exact hS (by clear hX h hl hS; first | (simp_all; done) | grind)
    · refine j_iconst (v := 0) h d_Mod_partnerDown_33 (by decide) ?_
      exact j_zret hX d_Mod_partnerDown_34 rfl (by first | exact Or.inl rfl | exact Or.inr rfl | exact b01_z _ | assumption) (Nat.le_refl _) (Nat.le_refl _) ⟨rfl, by clear hX h hl hS; first | (simp_all [b01]; done) | grind [b01], rfl, D0, by clear hX h hl hS; first | (simp_all; done) | grind, e70, hm0⟩
set_option maxRecDepth 100000 in
set_option maxHeartbeats 4000000 in
theorem c_Mod_send_ok (l : Launch) (K : Kx) (V : Vx) (A B C D : MI) (P : MP) (ms : MSt K V P) (N : List Msg) (hm : MN D N) (n : Nat) (ld sk : Int32) (hf : MF C n ld sk) (s : Nat) (hs : s < 2) (z0 : Zc C) : Ct l K md_Mod_send (3, 66) 0 0 [.ref (K.ad 6 0), .int (nI s)] V (bk4 A B C D) P (MRp V A B P (some (.int (if C 0 s = 0 then -1 else (spf C s n N).1))) C 0 (if C 0 s = 0 then N else (spf C s n N).2)) := by
  refine ct_of [(0, .ref (K.ad 6 0)), (1, .int (nI s))] (by decide) (Nat.le_of_ble_eq_true rfl) (ca_r (ca_i ca_n)) rfl ?_
  intro X hl hX
  have h : OkX X b_Mod_send R_Mod K := hX.1
  have hN : X.nL = 4 := hX.2.1
  have hmv := ms.1
  obtain ⟨D0, hD0⟩ : ∃ D0, D0 = up D 70 0 (if (1 : Int32) = 0 then 1 else 0) := ⟨_, rfl⟩
  have hm0 : MN D0 N := by rw [hD0]; exact MN_70 hm
  have e70 : D0 70 0 = 0 := by rw [hD0]; simp [up_rd]
  have hmD := hm
  clear hm
  obtain ⟨hn32, h42, h43, h44⟩ := hf
  have h01 := srv01 hs
  have hG : ∀ (D2 : MI) (N2 : List Msg) (g2 : Int32), ¬ C 0 s = 0 → D2 70 0 = 0 → MN D2 N2 → spf C s n N = penR C s n 0 g2 N2 → J X K V (bk4 A B C D2) P 0 0 45 [(0, .ref (K.ad 6 0)), (1, .int (nI s)), (2, .int g2)] [] := by
    intro D2 N2 g2 hs0 d70 hm2 he
    have hL : ∀ (k j : Nat) (g : Int32) (D1 : MI) (N1 : List Msg), j + k = n → DK D2 D1 ∧ MN D1 N1 ∧ penR C s n 0 g2 N2 = penR C s k j g N1 → J X K V (bk4 A B C D1) P 0 0 47 [(0, .ref (K.ad 6 0)), (1, .int (nI s)), (2, .int g), (3, .int (nI j))] [] := by
      intro k
      induction k with
      | zero =>
        intro j g D1 N1 hi hv
        have hi2 : n = j := by omega
        subst hi2
        refine j_iload_n h d_Mod_send_47 rfl ?_
        refine j_aload_n h d_Mod_send_48 rfl ?_
        refine j_get2e (v := nI n) h d_Mod_send_49 fl_Mod_98 rfl (by assumption) (by first | exact h42 | simpa [up_rd] using h42) ?_
        refine j_ic_ge (tgt := 84) h d_Mod_send_52 (by decide) (fun _ => ?_) (fun c => absurd (nI_le (Nat.le_refl _) (by omega)) c)
        refine j_iload_n h d_Mod_send_84 rfl ?_
        exact j_iret hX d_Mod_send_85 rfl (Nat.le_refl _) (Nat.le_refl _) ⟨rfl, by rw [if_neg hs0, he, hv.2.2]; rfl, rfl, D1, rfl, (hv.1 70 0 (by decide)).trans d70, by rw [if_neg hs0, he, hv.2.2]; exact hv.2.1⟩
      | succ k ih =>
        intro j g D1 N1 hi hv
        have hi2 : j < n := by omega
        refine j_iload_n h d_Mod_send_47 rfl ?_
        refine j_aload_n h d_Mod_send_48 rfl ?_
        refine j_get2e (v := nI n) h d_Mod_send_49 fl_Mod_98 rfl (by assumption) (by first | exact h42 | simpa [up_rd] using h42) ?_
        refine j_ic_ge (tgt := 84) h d_Mod_send_52 (by decide) (fun c => absurd c (nI_ge hi2 (by omega))) (fun _ => ?_)
        refine j_aload_n h d_Mod_send_55 rfl ?_
        refine j_getR h d_Mod_send_56 fl_Mod_56 rfl (by assumption) (mP ms (a := 25) (by decide)) ?_
        refine j_bipush (v := 32) h d_Mod_send_59 (by decide) ?_
        refine j_iload_n h d_Mod_send_61 rfl ?_
        refine j_imul h d_Mod_send_62 ?_
        refine j_iload_n h d_Mod_send_63 rfl ?_
        refine j_ix32 (s := s) (a := j) h d_Mod_send_64 ?_
        refine m_zald2 (a := 25) (L := 64) (j := (32 * s + j)) h ms d_Mod_send_65 (by decide) rfl (by decide) rfl rfl (by omega) ?_
        refine j_if_eq (tgt := 78) h d_Mod_send_66 (by decide) (fun c1 => ?_) (fun c1 => ?_)
        · refine j_iinc (v := nI (j + 1)) h d_Mod_send_78 rfl (nI_i j) (Nat.lt_of_lt_of_eq (m := 4) (by decide) hN.symm) ?_
          refine j_goto (tgt := 47) h d_Mod_send_81 (by decide) ?_
          refine j_lv (lv' := [(0, .ref (K.ad 6 0)), (1, .int (nI s)), (2, .int _), (3, .int (nI (j + 1)))]) (lvs rfl (lvs rfl (lvs rfl (lvs rfl lvs0)))) ?_
          first | exact ih (j + 1) _ _ _ (by omega) ⟨hv.1.trans hq3, hm3, hv.2.2.trans (by rw [penR, if_neg (by assumption)])⟩ | exact ih (j + 1) _ _ _ (by omega) ⟨hv.1, hv.2.1, hv.2.2.trans (by rw [penR, if_pos (by assumption)])⟩
        · refine j_aload_n h d_Mod_send_69 rfl ?_
          refine j_iload_n h d_Mod_send_70 rfl ?_
          refine j_iload_n h d_Mod_send_71 rfl ?_
          refine j_callV h (c_Mod_sendUpdate _ _ _ _ _ _ _ _ ms _ hv.2.1 _ hs _ _ hi2 hn32 (z0 _).1) d_Mod_send_72 ml_Mod_154 mv_Mod_sendUpdate (by assumption) ⟨rfl, rfl⟩ rfl rfl (Nat.le_of_ble_eq_true rfl) (hR_of hX (by decide) (by decide)) (hf_of hX (by decide) (by decide)) ?_
          rintro V3 _ _ P3 ⟨rfl, rfl, rfl, D3, rfl, hq3, hm3⟩
          refine j_iinc (v := g + 1) h d_Mod_send_75 rfl rfl (Nat.lt_of_lt_of_eq (m := 4) (by decide) hN.symm) ?_
          refine j_iinc (v := nI (j + 1)) h d_Mod_send_78 rfl (nI_i j) (Nat.lt_of_lt_of_eq (m := 4) (by decide) hN.symm) ?_
          refine j_goto (tgt := 47) h d_Mod_send_81 (by decide) ?_
          refine j_lv (lv' := [(0, .ref (K.ad 6 0)), (1, .int (nI s)), (2, .int _), (3, .int (nI (j + 1)))]) (lvs rfl (lvs rfl (lvs rfl (lvs rfl lvs0)))) ?_
          first | exact ih (j + 1) _ _ _ (by omega) ⟨hv.1.trans hq3, hm3, hv.2.2.trans (by rw [penR, if_neg (by assumption)])⟩ | exact ih (j + 1) _ _ _ (by omega) ⟨hv.1, hv.2.1, hv.2.2.trans (by rw [penR, if_pos (by assumption)])⟩
    refine j_iconst (v := 0) h d_Mod_send_45 (by decide) ?_
    refine j_istore_n h d_Mod_send_46 (Nat.lt_of_lt_of_eq (m := 4) (by decide) hN.symm) ?_
    refine j_lv (lv' := [(0, .ref (K.ad 6 0)), (1, .int (nI s)), (2, .int g2), (3, .int (nI 0))]) (lvs rfl (lvs rfl (lvs rfl (lvs rfl lvs0)))) ?_
    exact hL n 0 _ _ _ (by omega) ⟨DK.refl _, hm2, rfl⟩
  refine j_aload_n h d_Mod_send_0 rfl ?_
  refine j_aload_n h d_Mod_send_1 rfl ?_
  refine j_iload_n h d_Mod_send_2 rfl ?_
  refine j_callV h (c_Mod_isServer _ _ _ _ _ _ _ _ ms _) d_Mod_send_3 ml_Mod_206 mv_Mod_isServer (by assumption) ⟨rfl, rfl⟩ rfl rfl (Nat.le_of_ble_eq_true rfl) (hR_of hX (by decide) (by decide)) (hf_of hX (by decide) (by decide)) ?_
  rintro _ _ _ _ ⟨rfl, rfl, rfl, rfl⟩
  refine j_int (v' := 1) (by first | exact b01_t (by clear hX h hl; first | (simp_all [wn, b01_0, b01_1]; done) | grind [wn, b01_0, b01_1]) | (clear hX h hl; first | (simp_all [wn, b01_0, b01_1]; done) | grind [wn, b01_0, b01_1])) ?_
  refine j_callV h (c_Mod_isRight _ _ _ _ _ _ _ _ ms _ (by first | exact Or.inl rfl | exact Or.inr rfl)) d_Mod_send_6 ml_Mod_202 mv_Mod_isRight (by assumption) ⟨rfl, rfl⟩ rfl rfl (Nat.le_of_ble_eq_true rfl) (hR_of hX (by decide) (by decide)) (hf_of hX (by decide) (by decide)) ?_
  rintro _ _ _ _ ⟨rfl, rfl, rfl, rfl⟩
  rw [← hD0]
  refine j_if_ne (tgt := 14) h d_Mod_send_9 (by decide) (fun c1 => ?_) (fun c1 => absurd c1 (by decide))
  refine j_aload_n h d_Mod_send_14 rfl ?_
  refine j_getR h d_Mod_send_15 fl_Mod_7 rfl (by assumption) (mP ms (a := 10) (by decide)) ?_
  refine j_iload_n h d_Mod_send_18 rfl ?_
  refine m_iald2 (a := 10) (L := 2) (j := s) h ms d_Mod_send_19 (by decide) rfl (by decide) rfl rfl (by omega) ?_
  refine j_if_ne (tgt := 25) h d_Mod_send_20 (by decide) (fun c2 => ?_) (fun c2 => ?_)
  · refine j_iconst (v := 0) h d_Mod_send_25 (by decide) ?_
    refine j_istore_n h d_Mod_send_26 (Nat.lt_of_lt_of_eq (m := 4) (by decide) hN.symm) ?_
    refine j_aload_n h d_Mod_send_27 rfl ?_
    refine j_getR h d_Mod_send_28 fl_Mod_7 rfl (by assumption) (mP ms (a := 10) (by decide)) ?_
    refine j_iload_n h d_Mod_send_31 rfl ?_
    refine m_iald2 (a := 10) (L := 2) (j := s) h ms d_Mod_send_32 (by decide) rfl (by decide) rfl rfl (by omega) ?_
    refine j_iconst (v := 1) h d_Mod_send_33 (by decide) ?_
    refine j_ic_ne (tgt := 45) h d_Mod_send_34 (by decide) (fun c3 => ?_) (fun c3 => ?_)
    · refine j_lv (lv' := [(0, .ref (K.ad 6 0)), (1, .int (nI s)), (2, .int _)]) (lvs rfl (lvs rfl (lvs rfl lvs0))) ?_
      first | exact hG _ _ _ (by assumption) ((hq3 70 0 (by decide)).trans e70) hm3 (by unfold spf; rw [if_pos (by assumption)]) | exact hG _ _ _ (by assumption) e70 hm0 (by unfold spf; rw [if_neg (by assumption)])
    · refine j_aload_n h d_Mod_send_37 rfl ?_
      refine j_iload_n h d_Mod_send_38 rfl ?_
      refine j_callV h (c_Mod_sendHello _ _ _ _ _ _ _ _ ms _ hm0 _ hs) d_Mod_send_39 ml_Mod_209 mv_Mod_sendHello (by assumption) ⟨rfl, rfl⟩ rfl rfl (Nat.le_of_ble_eq_true rfl) (hR_of hX (by decide) (by decide)) (hf_of hX (by decide) (by decide)) ?_
      rintro V3 _ _ P3 ⟨rfl, rfl, rfl, D3, rfl, hq3, hm3⟩
      refine j_iinc (v := 1) h d_Mod_send_42 rfl rfl (Nat.lt_of_lt_of_eq (m := 4) (by decide) hN.symm) ?_
      refine j_lv (lv' := [(0, .ref (K.ad 6 0)), (1, .int (nI s)), (2, .int _)]) (lvs rfl (lvs rfl (lvs rfl lvs0))) ?_
      first | exact hG _ _ _ (by assumption) ((hq3 70 0 (by decide)).trans e70) hm3 (by unfold spf; rw [if_pos (by assumption)]) | exact hG _ _ _ (by assumption) e70 hm0 (by unfold spf; rw [if_neg (by assumption)])
  · refine j_iconst (v := -1) h d_Mod_send_23 (by decide) ?_
    exact j_iret hX d_Mod_send_24 rfl (Nat.le_refl _) (Nat.le_refl _) ⟨rfl, by rw [if_pos (by assumption)], rfl, D0, rfl, e70, by rw [if_pos (by assumption)]; exact hm0⟩
