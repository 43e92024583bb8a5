/-! the model: tidy, give -/
theorem L0_endT {A0 A : MI} {r : Nat} {t : Int32} (h : L0 A0 A) : L0 A0 (endT A r t).2 := by
  unfold endT
  try dsimp only
  repeat' split
  all_goals (try dsimp only)
  all_goals (repeat (first | (with_reducible exact h) | (with_reducible refine L0_chg ?_) | (with_reducible refine L0_chgTo ?_) | refine L0_up ?_ (by decide)))
theorem L0_enSole {A0 A : MI} {r : Nat} {t : Int32} (h : L0 A0 A) : L0 A0 (enSole A r t).2 := by
  unfold enSole
  try dsimp only
  repeat' split
  all_goals (try dsimp only)
  all_goals (repeat (first | (with_reducible exact h) | (with_reducible refine L0_chg ?_) | (with_reducible refine L0_chgTo ?_) | (with_reducible refine L0_endT ?_) | refine L0_up ?_ (by decide)))
theorem L0_tkOver {A0 A : MI} {r s : Nat} {ld sk t : Int32} (h : L0 A0 A) : L0 A0 (tkOver A r s ld sk t).2 := by
  unfold tkOver
  try dsimp only
  repeat' split
  all_goals (try dsimp only)
  all_goals (repeat (first | (with_reducible exact h) | (with_reducible refine L0_chg ?_) | (with_reducible refine L0_chgTo ?_) | (with_reducible refine L0_endT ?_) | (with_reducible refine L0_enSole ?_) | refine L0_up ?_ (by decide)))
theorem L0_enAlone {A0 A : MI} {r s : Nat} {ld sk t : Int32} (h : L0 A0 A) : L0 A0 (enAlone A r s ld sk t).2 := by
  unfold enAlone
  try dsimp only
  repeat' split
  all_goals (try dsimp only)
  all_goals (repeat (first | (with_reducible exact h) | (with_reducible refine L0_chg ?_) | (with_reducible refine L0_chgTo ?_) | (with_reducible refine L0_endT ?_) | (with_reducible refine L0_enSole ?_) | (with_reducible refine L0_tkOver ?_) | refine L0_up ?_ (by decide)))
theorem L0_enOne {A0 A : MI} {r s : Nat} {ld sk t : Int32} (h : L0 A0 A) : L0 A0 (enOne A r s ld sk t).2 := by
  unfold enOne
  try dsimp only
  repeat' split
  all_goals (try dsimp only)
  all_goals (repeat (first | (with_reducible exact h) | (with_reducible refine L0_chg ?_) | (with_reducible refine L0_chgTo ?_) | (with_reducible refine L0_endT ?_) | (with_reducible refine L0_enSole ?_) | (with_reducible refine L0_tkOver ?_) | (with_reducible refine L0_enAlone ?_) | refine L0_up ?_ (by decide)))
theorem nI_le0 {m : Nat} (h : m < 2 ^ 31) : nI m ≤ 0 ↔ nI m = 0 := by
  constructor
  · intro q
    have := (nI_leI (b := 0) h (by decide)).mp q
    rw [show m = 0 by omega]; rfl
  · intro q; rw [q]; decide
set_option maxRecDepth 100000 in
set_option maxHeartbeats 4000000 in
theorem c_Mod_tidy_ok (l : Launch) (K : Kx) (V : Vx) (A B C D : MI) (P : MP) (ms : MSt K V P) (N : List Msg) (hm : MN D N) (n : Nat) (ld sk : Int32) (hf : MF C n ld sk) (s : Nat) (hs : s < 2) : Ct l K md_Mod_tidy (2, 45) 0 0 [.ref (K.ad 6 0), .int (nI s)] V (bk4 A B C D) P (MRp V A B P (some (.int (if (C 0 s = 2 ∨ C 0 s = 3) then (endR s ld sk (clk C s) n 0 0 C).1 else -1))) (if (C 0 s = 2 ∨ C 0 s = 3) then wrIf (endR s ld sk (clk C s) n 0 0 C).1 (endR s ld sk (clk C s) n 0 0 C).2 s else C) 0 N) := by
  refine ct_of [(0, .ref (K.ad 6 0)), (1, .int (nI s))] (by decide) (Nat.le_of_ble_eq_true rfl) (ca_r (ca_i ca_n)) rfl ?_
  intro X hl hX
  have h : OkX X b_Mod_tidy R_Mod K := hX.1
  have hN : X.nL = 4 := hX.2.1
  have hmv := ms.1
  obtain ⟨D0, hD0⟩ : ∃ D0, D0 = up D 70 0 (if (1 : Int32) = 0 then 1 else 0) := ⟨_, rfl⟩
  have hm0 : MN D0 N := by rw [hD0]; exact MN_70 hm
  have e70 : D0 70 0 = 0 := by rw [hD0]; simp [up_rd]
  have hmD := hm
  clear hm
  obtain ⟨hn32, h42, h43, h44⟩ := hf
  have h01 := srv01 hs
  have hS : (C 0 s = 2 ∨ C 0 s = 3) → J X K V (bk4 A B C D0) P 0 0 36 [(0, .ref (K.ad 6 0)), (1, .int (nI s))] [] := by
    intro hp
    have hL : ∀ (k j : Nat) (g : Int32) (C1 : MI), j + k = n → MF C1 n ld sk ∧ clk C1 s = clk C s ∧ (∃ m, m ≤ j ∧ g = nI m) ∧ (endR s ld sk (clk C s) n 0 0 C) = endR s ld sk (clk C s) k j g C1 → J X K V (bk4 A B C1 D0) P 0 0 40 [(0, .ref (K.ad 6 0)), (1, .int (nI s)), (2, .int g), (3, .int (nI j))] [] := by
      intro k
      induction k with
      | zero =>
        intro j g C1 hi hv
        have hi2 : n = j := by omega
        subst hi2
        have h42 := hv.1.2.1
        refine j_iload_n h d_Mod_tidy_40 rfl ?_
        refine j_aload_n h d_Mod_tidy_41 rfl ?_
        refine j_get2e (v := nI n) h d_Mod_tidy_42 fl_Mod_98 rfl (by assumption) (by first | exact h42 | simpa [up_rd] using h42) ?_
        refine j_ic_ge (tgt := 81) h d_Mod_tidy_45 (by decide) (fun _ => ?_) (fun c => absurd (nI_le (Nat.le_refl _) (by omega)) c)
        obtain ⟨hv1, hv2, ⟨m, hm9, rfl⟩, hv4⟩ := hv
        have hE : (endR s ld sk (clk C s) n 0 0 C) = (nI m, C1) := hv4
        refine j_iload_n h d_Mod_tidy_81 rfl ?_
        refine j_if_eq (tgt := 93) h d_Mod_tidy_82 (by decide) (fun c => ?_) (fun c => ?_)
        · skip
          refine j_iconst (v := 1) h d_Mod_tidy_93 (by decide) ?_
          refine j_goto (tgt := 98) h d_Mod_tidy_94 (by decide) ?_
          refine j_istore_n h d_Mod_tidy_98 (Nat.lt_of_lt_of_eq (m := 4) (by decide) hN.symm) ?_
          refine j_iload_n h d_Mod_tidy_99 rfl ?_
          exact j_iret hX d_Mod_tidy_100 rfl (Nat.le_refl _) (Nat.le_refl _) ⟨rfl, by rw [if_pos hp, hE], rfl, D0, by rw [if_pos hp, hE]; unfold wrIf; rw [if_pos ((nI_le0 (by omega)).mpr c)], e70, hm0⟩
        · skip
          refine j_aload_n h d_Mod_tidy_85 rfl ?_
          refine j_iload_n h d_Mod_tidy_86 rfl ?_
          refine j_callV h (c_Mod_writes _ _ _ _ _ _ _ _ ms _ hs) d_Mod_tidy_87 ml_Mod_147 mv_Mod_writes (by assumption) ⟨rfl, rfl⟩ rfl rfl (Nat.le_of_ble_eq_true rfl) (hR_of hX (by decide) (by decide)) (hf_of hX (by decide) (by decide)) ?_
          rintro _ _ _ _ ⟨rfl, rfl, rfl, rfl⟩
          refine j_if_eq (tgt := 97) h d_Mod_tidy_90 (by decide) (fun c1 => ?_) (fun c1 => ?_)
          · refine j_iconst (v := 0) h d_Mod_tidy_97 (by decide) ?_
            refine j_istore_n h d_Mod_tidy_98 (Nat.lt_of_lt_of_eq (m := 4) (by decide) hN.symm) ?_
            refine j_iload_n h d_Mod_tidy_99 rfl ?_
            exact j_iret hX d_Mod_tidy_100 rfl (Nat.le_refl _) (Nat.le_refl _) ⟨rfl, by rw [if_pos hp, hE], rfl, D0, by rw [if_pos hp, hE]; unfold wrIf; rw [if_neg (fun q => c ((nI_le0 (by omega)).mp q))], e70, hm0⟩
          · refine j_iconst (v := 1) h d_Mod_tidy_93 (by decide) ?_
            refine j_goto (tgt := 98) h d_Mod_tidy_94 (by decide) ?_
            refine j_istore_n h d_Mod_tidy_98 (Nat.lt_of_lt_of_eq (m := 4) (by decide) hN.symm) ?_
            refine j_iload_n h d_Mod_tidy_99 rfl ?_
            exact j_iret hX d_Mod_tidy_100 rfl (Nat.le_refl _) (Nat.le_refl _) ⟨rfl, by rw [if_pos hp, hE], rfl, D0, by rw [if_pos hp, hE]; unfold wrIf; rw [if_neg (fun q => c ((nI_le0 (by omega)).mp q))], e70, hm0⟩
      | succ k ih =>
        intro j g C1 hi hv
        have hi2 : j < n := by omega
        have h42 := hv.1.2.1
        refine j_iload_n h d_Mod_tidy_40 rfl ?_
        refine j_aload_n h d_Mod_tidy_41 rfl ?_
        refine j_get2e (v := nI n) h d_Mod_tidy_42 fl_Mod_98 rfl (by assumption) (by first | exact h42 | simpa [up_rd] using h42) ?_
        refine j_ic_ge (tgt := 81) h d_Mod_tidy_45 (by decide) (fun c => absurd c (nI_ge hi2 (by omega))) (fun _ => ?_)
        refine j_aload_n h d_Mod_tidy_48 rfl ?_
        refine j_iload_n h d_Mod_tidy_49 rfl ?_
        refine j_bipush (v := 32) h d_Mod_tidy_50 (by decide) ?_
        refine j_iload_n h d_Mod_tidy_52 rfl ?_
        refine j_imul h d_Mod_tidy_53 ?_
        refine j_iload_n h d_Mod_tidy_54 rfl ?_
        refine j_ix32 (s := s) (a := j) h d_Mod_tidy_55 ?_
        refine j_callV h (c_Mod_ends _ _ _ _ _ _ _ _ ms _ hs _ (by omega) _ _ _ hv.1) d_Mod_tidy_56 ml_Mod_212 mv_Mod_ends (by assumption) ⟨rfl, rfl⟩ rfl rfl (Nat.le_of_ble_eq_true rfl) (hR_of hX (by decide) (by decide)) (hf_of hX (by decide) (by decide)) ?_
        rintro V2 _ _ P2 ⟨rfl, rfl, C2, rfl, rfl, e1, e2⟩
        rw [hv.2.1] at e1 e2 ⊢
        refine j_if_eq (tgt := 75) h d_Mod_tidy_59 (by decide) (fun ce => ?_) (fun ce => ?_)
        · have e3 := e1 ce
          subst e3
          refine j_iinc (v := nI (j + 1)) h d_Mod_tidy_75 rfl (nI_i j) (Nat.lt_of_lt_of_eq (m := 4) (by decide) hN.symm) ?_
          refine j_goto (tgt := 40) h d_Mod_tidy_78 (by decide) ?_
          refine j_lv (lv' := [(0, .ref (K.ad 6 0)), (1, .int (nI s)), (2, .int _), (3, .int (nI (j + 1)))]) (lvs rfl (lvs rfl (lvs rfl (lvs rfl lvs0)))) ?_
          exact ih (j + 1) _ _ (by omega) ⟨MF_zk hv.1 (ZK_enOne (ZK.refl C1)), (by unfold clk; rw [L0_enOne (L0.refl C1) 1 s (by decide), (ZK_enOne (ZK.refl C1)).2 40 0 (by decide) (by decide)]; exact hv.2.1), hv.2.2.1.elim (fun m q => ⟨m, by omega, q.2⟩), hv.2.2.2.trans (by rw [endR, if_pos ce])⟩
        · skip
          refine j_aload_n h d_Mod_tidy_62 rfl ?_
          refine j_bipush (v := 32) h d_Mod_tidy_63 (by decide) ?_
          refine j_iload_n h d_Mod_tidy_65 rfl ?_
          refine j_imul h d_Mod_tidy_66 ?_
          refine j_iload_n h d_Mod_tidy_67 rfl ?_
          refine j_ix32 (s := s) (a := j) h d_Mod_tidy_68 ?_
          refine j_callV h (c_Mod_change _ _ _ _ _ _ _ _ ms _ (by omega)) d_Mod_tidy_69 ml_Mod_140 mv_Mod_change (by assumption) ⟨rfl, rfl⟩ rfl rfl (Nat.le_of_ble_eq_true rfl) (hR_of hX (by decide) (by decide)) (hf_of hX (by decide) (by decide)) ?_
          rintro _ _ _ _ ⟨rfl, rfl, rfl, rfl⟩
          rw [e2 ce]
          refine j_iinc (v := g + 1) h d_Mod_tidy_72 rfl rfl (Nat.lt_of_lt_of_eq (m := 4) (by decide) hN.symm) ?_
          refine j_iinc (v := nI (j + 1)) h d_Mod_tidy_75 rfl (nI_i j) (Nat.lt_of_lt_of_eq (m := 4) (by decide) hN.symm) ?_
          refine j_goto (tgt := 40) h d_Mod_tidy_78 (by decide) ?_
          refine j_lv (lv' := [(0, .ref (K.ad 6 0)), (1, .int (nI s)), (2, .int _), (3, .int (nI (j + 1)))]) (lvs rfl (lvs rfl (lvs rfl (lvs rfl lvs0)))) ?_
          exact ih (j + 1) _ _ (by omega) ⟨MF_zk hv.1 (ZK_enOne (ZK.refl C1)), (by unfold clk; rw [L0_enOne (L0.refl C1) 1 s (by decide), (ZK_enOne (ZK.refl C1)).2 40 0 (by decide) (by decide)]; exact hv.2.1), hv.2.2.1.elim (fun m q => ⟨m + 1, by omega, by rw [q.2]; exact nI_i m⟩), hv.2.2.2.trans (by rw [endR, if_neg ce])⟩
    refine j_iconst (v := 0) h d_Mod_tidy_36 (by decide) ?_
    refine j_istore_n h d_Mod_tidy_37 (Nat.lt_of_lt_of_eq (m := 4) (by decide) hN.symm) ?_
    refine j_iconst (v := 0) h d_Mod_tidy_38 (by decide) ?_
    refine j_istore_n h d_Mod_tidy_39 (Nat.lt_of_lt_of_eq (m := 4) (by decide) hN.symm) ?_
    refine j_lv (lv' := [(0, .ref (K.ad 6 0)), (1, .int (nI s)), (2, .int 0), (3, .int (nI 0))]) (lvs rfl (lvs rfl (lvs rfl (lvs rfl lvs0)))) ?_
    exact hL n 0 0 C (by omega) ⟨⟨hn32, h42, h43, h44⟩, rfl, ⟨0, Nat.le_refl _, rfl⟩, rfl⟩
  refine j_aload_n h d_Mod_tidy_0 rfl ?_
  refine j_aload_n h d_Mod_tidy_1 rfl ?_
  refine j_iload_n h d_Mod_tidy_2 rfl ?_
  refine j_callV h (c_Mod_isServer _ _ _ _ _ _ _ _ ms _) d_Mod_tidy_3 ml_Mod_206 mv_Mod_isServer (by assumption) ⟨rfl, rfl⟩ rfl rfl (Nat.le_of_ble_eq_true rfl) (hR_of hX (by decide) (by decide)) (hf_of hX (by decide) (by decide)) ?_
  rintro _ _ _ _ ⟨rfl, rfl, rfl, rfl⟩
  refine j_int (v' := 1) (by first | exact b01_t (by clear hX h hl; first | (simp_all [wn, b01_0, b01_1]; done) | grind [wn, b01_0, b01_1]) | (clear hX h hl; first | (simp_all [wn, b01_0, b01_1]; done) | grind [wn, b01_0, b01_1])) ?_
  refine j_callV h (c_Mod_isRight _ _ _ _ _ _ _ _ ms _ (by first | exact Or.inl rfl | exact Or.inr rfl)) d_Mod_tidy_6 ml_Mod_202 mv_Mod_isRight (by assumption) ⟨rfl, rfl⟩ rfl rfl (Nat.le_of_ble_eq_true rfl) (hR_of hX (by decide) (by decide)) (hf_of hX (by decide) (by decide)) ?_
  rintro _ _ _ _ ⟨rfl, rfl, rfl, rfl⟩
  rw [← hD0]
  refine j_if_ne (tgt := 14) h d_Mod_tidy_9 (by decide) (fun c1 => ?_) (fun c1 => absurd c1 (by decide))
  refine j_aload_n h d_Mod_tidy_14 rfl ?_
  refine j_getR h d_Mod_tidy_15 fl_Mod_7 rfl (by assumption) (mP ms (a := 10) (by decide)) ?_
  refine j_iload_n h d_Mod_tidy_18 rfl ?_
  refine m_iald2 (a := 10) (L := 2) (j := s) h ms d_Mod_tidy_19 (by decide) rfl (by decide) rfl rfl (by omega) ?_
  refine j_iconst (v := 2) h d_Mod_tidy_20 (by decide) ?_
  refine j_ic_eq (tgt := 36) h d_Mod_tidy_21 (by decide) (fun c2 => ?_) (fun c2 => ?_)
  · refine j_lv (lv' := [(0, .ref (K.ad 6 0)), (1, .int (nI s))]) (lvs rfl (lvs rfl lvs0)) ?_
    exact hS (by clear hX h hl hS; first | (simp_all; done) | grind)
  · refine j_aload_n h d_Mod_tidy_24 rfl ?_
    refine j_getR h d_Mod_tidy_25 fl_Mod_7 rfl (by assumption) (mP ms (a := 10) (by decide)) ?_
    refine j_iload_n h d_Mod_tidy_28 rfl ?_
    refine m_iald2 (a := 10) (L := 2) (j := s) h ms d_Mod_tidy_29 (by decide) rfl (by decide) rfl rfl (by omega) ?_
    refine j_iconst (v := 3) h d_Mod_tidy_30 (by decide) ?_
    refine j_ic_eq (tgt := 36) h d_Mod_tidy_31 (by decide) (fun c3 => ?_) (fun c3 => ?_)
    · refine j_lv (lv' := [(0, .ref (K.ad 6 0)), (1, .int (nI s))]) (lvs rfl (lvs rfl lvs0)) ?_
      exact hS (by clear hX h hl hS; first | (simp_all; done) | grind)
    · refine j_iconst (v := -1) h d_Mod_tidy_34 (by decide) ?_
      exact j_iret hX d_Mod_tidy_35 rfl (Nat.le_refl _) (Nat.le_refl _) ⟨rfl, by rw [if_neg (by clear hX h hl hS; first | (simp_all; done) | grind)], rfl, D0, by rw [if_neg (by clear hX h hl hS; first | (simp_all; done) | grind)], e70, hm0⟩
set_option maxRecDepth 100000 in
set_option maxHeartbeats 4000000 in
theorem c_Mod_give_ok (l : Launch) (K : Kx) (V : Vx) (A B C D : MI) (P : MP) (ms : MSt K V P) (N : List Msg) (hm : MN D N) (n : Nat) (ld sk : Int32) (hf : MF C n ld sk) (s : Nat) (hs : s < 2) (w : Int32) (hw : wn w 1 32) : Ct l K md_Mod_give (1, 21) 0 0 [.ref (K.ad 6 0), .int (nI s), .int w] V (bk4 A B C D) P (MRp V A B P (some (.int (if C 0 s = 2 then (hndR s w n 0 0 C).1 else -1))) (if C 0 s = 2 then wrIf (hndR s w n 0 0 C).1 (hndR s w n 0 0 C).2 s else C) 0 N) := by
  refine ct_of [(0, .ref (K.ad 6 0)), (1, .int (nI s)), (2, .int w)] (by decide) (Nat.le_of_ble_eq_true rfl) (ca_r (ca_i (ca_i ca_n))) rfl ?_
  intro X hl hX
  have h : OkX X b_Mod_give R_Mod K := hX.1
  have hN : X.nL = 5 := hX.2.1
  have hmv := ms.1
  obtain ⟨D0, hD0⟩ : ∃ D0, D0 = up D 70 0 (if (1 : Int32) = 0 then 1 else 0) := ⟨_, rfl⟩
  have hm0 : MN D0 N := by rw [hD0]; exact MN_70 hm
  have e70 : D0 70 0 = 0 := by rw [hD0]; simp [up_rd]
  have hmD := hm
  clear hm
  obtain ⟨hn32, h42, h43, h44⟩ := hf
  have h01 := srv01 hs
  have hG : ∀ (m : Nat) (C1 : MI), C 0 s = 2 → m ≤ 32 → (hndR s w n 0 0 C) = (nI m, C1) → J X K V (bk4 A B C1 D0) P 0 0 113 [(0, .ref (K.ad 6 0)), (1, .int (nI s)), (2, .int w), (3, .int (nI m))] [] := by
    intro m C1 hp hm9 hE
    refine j_iload_n h d_Mod_give_113 rfl ?_
    refine j_if_eq (tgt := 125) h d_Mod_give_114 (by decide) (fun c => ?_) (fun c => ?_)
    · skip
      refine j_iconst (v := 1) h d_Mod_give_125 (by decide) ?_
      refine j_goto (tgt := 130) h d_Mod_give_126 (by decide) ?_
      refine j_istore h d_Mod_give_130 (Nat.lt_of_lt_of_eq (m := 5) (by decide) hN.symm) ?_
      refine j_iload_n h d_Mod_give_132 rfl ?_
      exact j_iret hX d_Mod_give_133 rfl (Nat.le_refl _) (Nat.le_refl _) ⟨rfl, by rw [if_pos hp, hE], rfl, D0, by rw [if_pos hp, hE]; unfold wrIf; rw [if_pos ((nI_le0 (by omega)).mpr c)], e70, hm0⟩
    · skip
      refine j_aload_n h d_Mod_give_117 rfl ?_
      refine j_iload_n h d_Mod_give_118 rfl ?_
      refine j_callV h (c_Mod_writes _ _ _ _ _ _ _ _ ms _ hs) d_Mod_give_119 ml_Mod_147 mv_Mod_writes (by assumption) ⟨rfl, rfl⟩ rfl rfl (Nat.le_of_ble_eq_true rfl) (hR_of hX (by decide) (by decide)) (hf_of hX (by decide) (by decide)) ?_
      rintro _ _ _ _ ⟨rfl, rfl, rfl, rfl⟩
      refine j_if_eq (tgt := 129) h d_Mod_give_122 (by decide) (fun c1 => ?_) (fun c1 => ?_)
      · refine j_iconst (v := 0) h d_Mod_give_129 (by decide) ?_
        refine j_istore h d_Mod_give_130 (Nat.lt_of_lt_of_eq (m := 5) (by decide) hN.symm) ?_
        refine j_iload_n h d_Mod_give_132 rfl ?_
        exact j_iret hX d_Mod_give_133 rfl (Nat.le_refl _) (Nat.le_refl _) ⟨rfl, by rw [if_pos hp, hE], rfl, D0, by rw [if_pos hp, hE]; unfold wrIf; rw [if_neg (fun q => c ((nI_le0 (by omega)).mp q))], e70, hm0⟩
      · refine j_iconst (v := 1) h d_Mod_give_125 (by decide) ?_
        refine j_goto (tgt := 130) h d_Mod_give_126 (by decide) ?_
        refine j_istore h d_Mod_give_130 (Nat.lt_of_lt_of_eq (m := 5) (by decide) hN.symm) ?_
        refine j_iload_n h d_Mod_give_132 rfl ?_
        exact j_iret hX d_Mod_give_133 rfl (Nat.le_refl _) (Nat.le_refl _) ⟨rfl, by rw [if_pos hp, hE], rfl, D0, by rw [if_pos hp, hE]; unfold wrIf; rw [if_neg (fun q => c ((nI_le0 (by omega)).mp q))], e70, hm0⟩
  have hS : C 0 s = 2 → J X K V (bk4 A B C D0) P 0 0 45 [(0, .ref (K.ad 6 0)), (1, .int (nI s)), (2, .int w)] [] := by
    intro hp
    have hL : ∀ (k j : Nat) (g : Int32) (C1 : MI), j + k = n → C1 42 0 = nI n ∧ (∃ m, m ≤ j ∧ g = nI m) ∧ (hndR s w n 0 0 C) = hndR s w k j g C1 → J X K V (bk4 A B C1 D0) P 0 0 50 [(0, .ref (K.ad 6 0)), (1, .int (nI s)), (2, .int w), (3, .int g), (4, .int (nI j))] [] := by
      intro k
      induction k with
      | zero =>
        intro j g C1 hi hv
        have hi2 : n = j := by omega
        subst hi2
        have h42 := hv.1
        refine j_iload h d_Mod_give_50 rfl ?_
        refine j_aload_n h d_Mod_give_52 rfl ?_
        refine j_get2e (v := nI n) h d_Mod_give_53 fl_Mod_98 rfl (by assumption) (by first | exact h42 | simpa [up_rd] using h42) ?_
        refine j_ic_ge (tgt := 113) h d_Mod_give_56 (by decide) (fun _ => ?_) (fun c => absurd (nI_le (Nat.le_refl _) (by omega)) c)
        refine j_lv (lv' := [(0, .ref (K.ad 6 0)), (1, .int (nI s)), (2, .int w), (3, .int g)]) (lvs rfl (lvs rfl (lvs rfl (lvs rfl lvs0)))) ?_
        obtain ⟨m, hm9, rfl⟩ := hv.2.1
        exact hG m C1 hp (by omega) (hv.2.2.trans (by rfl))
      | succ k ih =>
        intro j g C1 hi hv
        have hi2 : j < n := by omega
        have h42 := hv.1
        refine j_iload h d_Mod_give_50 rfl ?_
        refine j_aload_n h d_Mod_give_52 rfl ?_
        refine j_get2e (v := nI n) h d_Mod_give_53 fl_Mod_98 rfl (by assumption) (by first | exact h42 | simpa [up_rd] using h42) ?_
        refine j_ic_ge (tgt := 113) h d_Mod_give_56 (by decide) (fun c => absurd c (nI_ge hi2 (by omega))) (fun _ => ?_)
        refine j_iload_n h d_Mod_give_59 rfl ?_
        refine j_iload_n h d_Mod_give_60 rfl ?_
        refine j_ic_ge (tgt := 113) h d_Mod_give_61 (by decide) (fun c1 => ?_) (fun c1 => ?_)
        · refine j_lv (lv' := [(0, .ref (K.ad 6 0)), (1, .int (nI s)), (2, .int w), (3, .int g)]) (lvs rfl (lvs rfl (lvs rfl (lvs rfl lvs0)))) ?_
          obtain ⟨m, hm9, rfl⟩ := hv.2.1
          exact hG m C1 hp (by omega) (hv.2.2.trans (by rw [hndR, if_pos (by assumption)]))
        · refine j_aload_n h d_Mod_give_64 rfl ?_
          refine j_getR h d_Mod_give_65 fl_Mod_34 rfl (by assumption) (mP ms (a := 18) (by decide)) ?_
          refine j_bipush (v := 32) h d_Mod_give_68 (by decide) ?_
          refine j_iload_n h d_Mod_give_70 rfl ?_
          refine j_imul h d_Mod_give_71 ?_
          refine j_iload h d_Mod_give_72 rfl ?_
          refine j_ix32 (s := s) (a := j) h d_Mod_give_74 ?_
          refine m_iald2 (a := 18) (L := 64) (j := (32 * s + j)) h ms d_Mod_give_75 (by decide) rfl (by decide) rfl rfl (by omega) ?_
          refine j_iconst (v := 1) h d_Mod_give_76 (by decide) ?_
          refine j_ic_ne (tgt := 107) h d_Mod_give_77 (by decide) (fun c2 => ?_) (fun c2 => ?_)
          · refine j_iinc (v := nI (j + 1)) h d_Mod_give_107 rfl (nI_i j) (Nat.lt_of_lt_of_eq (m := 5) (by decide) hN.symm) ?_
            refine j_goto (tgt := 50) h d_Mod_give_110 (by decide) ?_
            refine j_lv (lv' := [(0, .ref (K.ad 6 0)), (1, .int (nI s)), (2, .int w), (3, .int _), (4, .int (nI (j + 1)))]) (lvs rfl (lvs rfl (lvs rfl (lvs rfl (lvs rfl lvs0))))) ?_
            first | exact ih (j + 1) _ _ (by omega) ⟨hv.1, hv.2.1.elim (fun m q => ⟨m, by omega, q.2⟩), hv.2.2.trans (by rw [hndR, if_neg (by assumption), if_neg (by assumption)])⟩ | exact ih (j + 1) _ _ (by omega) ⟨by simp [chg, up_rd]; exact hv.1, hv.2.1.elim (fun m q => ⟨m + 1, by omega, by rw [q.2]; exact nI_i m⟩), hv.2.2.trans (by rw [hndR, if_neg (by assumption), if_pos (by assumption)]; rfl)⟩
          · refine j_aload_n h d_Mod_give_80 rfl ?_
            refine j_getR h d_Mod_give_81 fl_Mod_34 rfl (by assumption) (mP ms (a := 18) (by decide)) ?_
            refine j_bipush (v := 32) h d_Mod_give_84 (by decide) ?_
            refine j_iload_n h d_Mod_give_86 rfl ?_
            refine j_imul h d_Mod_give_87 ?_
            refine j_iload h d_Mod_give_88 rfl ?_
            refine j_ix32 (s := s) (a := j) h d_Mod_give_90 ?_
            refine j_iconst (v := 4) h d_Mod_give_91 (by decide) ?_
            refine m_iast2 (a := 18) (L := 64) (j := (32 * s + j)) h ms d_Mod_give_92 (by decide) rfl (by decide) rfl rfl (by omega) ?_
            refine j_aload_n h d_Mod_give_93 rfl ?_
            refine j_bipush (v := 32) h d_Mod_give_94 (by decide) ?_
            refine j_iload_n h d_Mod_give_96 rfl ?_
            refine j_imul h d_Mod_give_97 ?_
            refine j_iload h d_Mod_give_98 rfl ?_
            refine j_ix32 (s := s) (a := j) h d_Mod_give_100 ?_
            refine j_callV h (c_Mod_change _ _ _ _ _ _ _ _ ms _ (by omega)) d_Mod_give_101 ml_Mod_140 mv_Mod_change (by assumption) ⟨rfl, rfl⟩ rfl rfl (Nat.le_of_ble_eq_true rfl) (hR_of hX (by decide) (by decide)) (hf_of hX (by decide) (by decide)) ?_
            rintro _ _ _ _ ⟨rfl, rfl, rfl, rfl⟩
            refine j_iinc (v := g + 1) h d_Mod_give_104 rfl rfl (Nat.lt_of_lt_of_eq (m := 5) (by decide) hN.symm) ?_
            refine j_iinc (v := nI (j + 1)) h d_Mod_give_107 rfl (nI_i j) (Nat.lt_of_lt_of_eq (m := 5) (by decide) hN.symm) ?_
            refine j_goto (tgt := 50) h d_Mod_give_110 (by decide) ?_
            refine j_lv (lv' := [(0, .ref (K.ad 6 0)), (1, .int (nI s)), (2, .int w), (3, .int _), (4, .int (nI (j + 1)))]) (lvs rfl (lvs rfl (lvs rfl (lvs rfl (lvs rfl lvs0))))) ?_
            first | exact ih (j + 1) _ _ (by omega) ⟨hv.1, hv.2.1.elim (fun m q => ⟨m, by omega, q.2⟩), hv.2.2.trans (by rw [hndR, if_neg (by assumption), if_neg (by assumption)])⟩ | exact ih (j + 1) _ _ (by omega) ⟨by simp [chg, up_rd]; exact hv.1, hv.2.1.elim (fun m q => ⟨m + 1, by omega, by rw [q.2]; exact nI_i m⟩), hv.2.2.trans (by rw [hndR, if_neg (by assumption), if_pos (by assumption)]; rfl)⟩
    refine j_iconst (v := 0) h d_Mod_give_45 (by decide) ?_
    refine j_istore_n h d_Mod_give_46 (Nat.lt_of_lt_of_eq (m := 5) (by decide) hN.symm) ?_
    refine j_iconst (v := 0) h d_Mod_give_47 (by decide) ?_
    refine j_istore h d_Mod_give_48 (Nat.lt_of_lt_of_eq (m := 5) (by decide) hN.symm) ?_
    refine j_lv (lv' := [(0, .ref (K.ad 6 0)), (1, .int (nI s)), (2, .int w), (3, .int 0), (4, .int (nI 0))]) (lvs rfl (lvs rfl (lvs rfl (lvs rfl (lvs rfl lvs0))))) ?_
    exact hL n 0 0 C (by omega) ⟨h42, ⟨0, Nat.le_refl _, rfl⟩, rfl⟩
  refine j_aload_n h d_Mod_give_0 rfl ?_
  refine j_aload_n h d_Mod_give_1 rfl ?_
  refine j_iload_n h d_Mod_give_2 rfl ?_
  refine j_callV h (c_Mod_isServer _ _ _ _ _ _ _ _ ms _) d_Mod_give_3 ml_Mod_206 mv_Mod_isServer (by assumption) ⟨rfl, rfl⟩ rfl rfl (Nat.le_of_ble_eq_true rfl) (hR_of hX (by decide) (by decide)) (hf_of hX (by decide) (by decide)) ?_
  rintro _ _ _ _ ⟨rfl, rfl, rfl, rfl⟩
  refine j_if_eq (tgt := 24) h d_Mod_give_6 (by decide) (fun c1 => ?_) (fun c1 => ?_)
  · refine j_iconst (v := 0) h d_Mod_give_24 (by decide) ?_
    exfalso
    clear hX h hl
    first | (simp_all [wn, b01_0, b01_1]; done) | grind [wn, b01_0, b01_1]
  · refine j_iload_n h d_Mod_give_9 rfl ?_
    refine j_iconst (v := 1) h d_Mod_give_10 (by decide) ?_
    refine j_ic_lt (tgt := 24) h d_Mod_give_11 (by decide) (fun c2 => ?_) (fun c2 => ?_)
    · refine j_iconst (v := 0) h d_Mod_give_24 (by decide) ?_
      exfalso
      clear hX h hl
      first | (simp_all [wn, b01_0, b01_1]; done) | grind [wn, b01_0, b01_1]
    · refine j_iload_n h d_Mod_give_14 rfl ?_
      refine j_bipush (v := 32) h d_Mod_give_15 (by decide) ?_
      refine j_ic_gt (tgt := 24) h d_Mod_give_17 (by decide) (fun c3 => ?_) (fun c3 => ?_)
      · refine j_iconst (v := 0) h d_Mod_give_24 (by decide) ?_
        exfalso
        clear hX h hl
        first | (simp_all [wn, b01_0, b01_1]; done) | grind [wn, b01_0, b01_1]
      · refine j_iconst (v := 1) h d_Mod_give_20 (by decide) ?_
        refine j_goto (tgt := 25) h d_Mod_give_21 (by decide) ?_
        refine j_callV h (c_Mod_isRight _ _ _ _ _ _ _ _ ms _ (by first | exact Or.inl rfl | exact Or.inr rfl)) d_Mod_give_25 ml_Mod_202 mv_Mod_isRight (by assumption) ⟨rfl, rfl⟩ rfl rfl (Nat.le_of_ble_eq_true rfl) (hR_of hX (by decide) (by decide)) (hf_of hX (by decide) (by decide)) ?_
        rintro _ _ _ _ ⟨rfl, rfl, rfl, rfl⟩
        rw [← hD0]
        refine j_if_ne (tgt := 33) h d_Mod_give_28 (by decide) (fun c4 => ?_) (fun c4 => absurd c4 (by decide))
        refine j_aload_n h d_Mod_give_33 rfl ?_
        refine j_getR h d_Mod_give_34 fl_Mod_7 rfl (by assumption) (mP ms (a := 10) (by decide)) ?_
        refine j_iload_n h d_Mod_give_37 rfl ?_
        refine m_iald2 (a := 10) (L := 2) (j := s) h ms d_Mod_give_38 (by decide) rfl (by decide) rfl rfl (by omega) ?_
        refine j_iconst (v := 2) h d_Mod_give_39 (by decide) ?_
        refine j_ic_eq (tgt := 45) h d_Mod_give_40 (by decide) (fun c5 => ?_) (fun c5 => ?_)
        · refine j_lv (lv' := [(0, .ref (K.ad 6 0)), (1, .int (nI s)), (2, .int w)]) (lvs rfl (lvs rfl (lvs rfl lvs0))) ?_
          exact hS (by assumption)
        · refine j_iconst (v := -1) h d_Mod_give_43 (by decide) ?_
          exact j_iret hX d_Mod_give_44 rfl (Nat.le_refl _) (Nat.le_refl _) ⟨rfl, by rw [if_neg (by assumption)], rfl, D0, by rw [if_neg (by assumption)], e70, hm0⟩
