/-! the constructor of a server -/
theorem up_cm {α : Type} (f : Nat → Nat → α) {c i c' i' : Nat} {v w : α} (h : c ≠ c') : up (up f c i v) c' i' w = up (up f c' i' w) c i v := by
  funext x y
  unfold up
  by_cases h1 : x = c' ∧ y = i'
  · have : ¬ (x = c ∧ y = i) := fun q => h (q.1.symm.trans h1.1)
    simp [h1, this]
    intro q; exact absurd q.symm h
  · simp only [h1, if_false]
def recA (A : MI) (s : Nat) : Nat → MI
  | 0 => A
  | j + 1 => up (up (recA A s j) 10 (32 * s + j) (b01 (j % 2 = s))) 11 (32 * s + j) (-1)
theorem recA_hi (A : MI) (s : Nat) {col i : Nat} : ∀ j, 32 * s + j ≤ i → recA A s j col i = A col i
  | 0, _ => rfl
  | j + 1, h => by
    show up (up (recA A s j) 10 (32 * s + j) _) 11 (32 * s + j) (-1) col i = _
    rw [up_i _ _ (by omega), up_i _ _ (by omega)]
    exact recA_hi A s j (by omega)
theorem recA_c (A : MI) (s : Nat) {col i : Nat} (h1 : col ≠ 10) (h2 : col ≠ 11) : ∀ j, recA A s j col i = A col i
  | 0 => rfl
  | j + 1 => by
    show up (up (recA A s j) 10 (32 * s + j) _) 11 (32 * s + j) (-1) col i = _
    rw [up_c _ _ h2, up_c _ _ h1]
    exact recA_c A s h1 h2 j
theorem recA_up (A : MI) (s : Nat) {col i : Nat} {v : Int32} (h1 : col ≠ 10) (h2 : col ≠ 11) : ∀ j, recA (up A col i v) s j = up (recA A s j) col i v
  | 0 => rfl
  | j + 1 => by
    show up (up (recA (up A col i v) s j) 10 (32 * s + j) _) 11 (32 * s + j) (-1) = up (up (up (recA A s j) 10 (32 * s + j) _) 11 (32 * s + j) (-1)) col i v
    rw [recA_up A s h1 h2 j, up_cm _ h1, up_cm _ h2]
def recP (K : Kx) (P : MP) (s : Nat) : Nat → MP
  | 0 => P
  | j + 1 => up (recP K P s j) (12 + s) j (some (K.ad 2 (32 * s + j)))
theorem recP_c (K : Kx) (P : MP) (s : Nat) {col i : Nat} (h : col ≠ 12 + s) : ∀ j, recP K P s j col i = P col i
  | 0 => rfl
  | j + 1 => by
    show up (recP K P s j) (12 + s) j _ col i = _
    rw [up_c _ _ h]
    exact recP_c K P s h j
theorem recP_lt (K : Kx) (P : MP) (s : Nat) {i : Nat} : ∀ j, i < j → recP K P s j (12 + s) i = some (K.ad 2 (32 * s + i))
  | 0, h => absurd h (by omega)
  | j + 1, h => by
    show up (recP K P s j) (12 + s) j _ (12 + s) i = _
    by_cases q : i = j
    · subst q; rw [up_s]
    · rw [up_i _ _ q]; exact recP_lt K P s j (by omega)
def srvA (A : MI) (s n : Nat) : MI := up (up (up (up (recA A s n) 0 s 2) 2 s 1) 3 s 1) 4 s 1
def srvB (B : MI) (s : Nat) (ld sk : Int32) : MI := up (up (up (up B 60 s (nI s)) 61 s (1 - nI s)) 62 s ld) 63 s sk
def srvP (K : Kx) (P : MP) (s n : Nat) : MP := recP K (up P 4 s (some (K.aad (2 + s)))) s n
theorem vz_o {K : Kx} {z c i : Nat} (h1 : K.pv c i) (h2 : K.ad c i < z) : (Vz K z).1 c i := show K.pv c i ∧ K.ad c i < z from ⟨h1, h2⟩
theorem vz_a {K : Kx} {z a : Nat} (h1 : K.pa a) (h2 : K.aad a < z) : (Vz K z).2.1 a := show K.pa a ∧ K.aad a < z from ⟨h1, h2⟩
theorem kf_srv {K : Kx} {n s : Nat} (kf : KF K n) (hs : s < 2) : K.pv 1 s := by rw [kf.2.2.2.2.1]; exact hs
theorem kf_rec {K : Kx} {n s a : Nat} (kf : KF K n) (hs : s < 2) (ha : a < n) : K.ad 2 (32 * s + a) = K.ad 1 s + 2 + a ∧ K.pv 2 (32 * s + a) := by
  have := kf.1
  constructor
  · rw [kf.2.1]
    simp only [kad]
    rcases (show s = 0 ∨ s = 1 by omega) with rfl | rfl
    · rw [if_pos (by omega), if_pos rfl]; omega
    · rw [if_neg (by omega), if_neg (by decide)]; omega
  · rw [kf.2.2.2.2.1]
    show 32 * s + a < n ∨ (32 ≤ 32 * s + a ∧ 32 * s + a < 32 + n)
    omega
theorem kf_arr {K : Kx} {n s : Nat} (kf : KF K n) (hs : s < 2) : K.aad (2 + s) = K.ad 1 s + 1 ∧ K.pa (2 + s) ∧ K.alen (2 + s) = n := by
  rw [kf.2.1, kf.2.2.1, kf.2.2.2.1, kf.2.2.2.2.2]
  rcases (show s = 0 ∨ s = 1 by omega) with rfl | rfl
  · exact ⟨rfl, Or.inl (by decide), rfl⟩
  · refine ⟨?_, Or.inl (by decide), rfl⟩
    show K.base + 5 + n = K.base + 4 + n + 1
    omega
theorem rec_df {A B C D : MI} {P : MP} {r : Nat} (h : ∀ col, 10 ≤ col → col ≤ 22 → A col r = 0) : ∀ j, j < 13 → defaultValue (ftyp 2 j) = fval (bk4 A B C D) P (cinf 2 j) r := by
  intro j hj
  match j, hj with
  | 0, _ => exact congrArg Value.int (h 10 (by decide) (by decide)).symm
  | 1, _ => exact congrArg Value.int (h 11 (by decide) (by decide)).symm
  | 2, _ => exact congrArg Value.int (h 12 (by decide) (by decide)).symm
  | 3, _ => exact congrArg Value.int (h 13 (by decide) (by decide)).symm
  | 4, _ => exact congrArg Value.int (h 14 (by decide) (by decide)).symm
  | 5, _ => exact congrArg Value.int (h 15 (by decide) (by decide)).symm
  | 6, _ => exact congrArg Value.int (h 16 (by decide) (by decide)).symm
  | 7, _ => exact congrArg Value.int (h 17 (by decide) (by decide)).symm
  | 8, _ => exact congrArg Value.int (h 18 (by decide) (by decide)).symm
  | 9, _ => exact congrArg Value.int (h 19 (by decide) (by decide)).symm
  | 10, _ => exact congrArg Value.int (h 20 (by decide) (by decide)).symm
  | 11, _ => exact congrArg Value.int (h 21 (by decide) (by decide)).symm
  | 12, _ => exact congrArg Value.int (h 22 (by decide) (by decide)).symm
  | k + 13, hk => exact absurd hk (by omega)
theorem rem2 {a : Nat} (h : a < 2 ^ 31) : nI a - nI a / 2 * 2 = nI (a % 2) := pk_rem (d := 2) h (by decide) (by decide)
theorem d_Srv_init_0 : decode b_Srv_init 0 = .ok (.aload_n 0, 1) := by decide +kernel
theorem d_Srv_init_1 : decode b_Srv_init 1 = .ok (.invokespecial 3, 3) := by decide +kernel
theorem d_Srv_init_4 : decode b_Srv_init 4 = .ok (.aload_n 0, 1) := by decide +kernel
theorem d_Srv_init_5 : decode b_Srv_init 5 = .ok (.iload_n 1, 1) := by decide +kernel
theorem d_Srv_init_6 : decode b_Srv_init 6 = .ok (.putfield 9, 3) := by decide +kernel
theorem d_Srv_init_9 : decode b_Srv_init 9 = .ok (.aload_n 0, 1) := by decide +kernel
theorem d_Srv_init_10 : decode b_Srv_init 10 = .ok (.iconst 1, 1) := by decide +kernel
theorem d_Srv_init_11 : decode b_Srv_init 11 = .ok (.iload_n 1, 1) := by decide +kernel
theorem d_Srv_init_12 : decode b_Srv_init 12 = .ok (.isub, 1) := by decide +kernel
theorem d_Srv_init_13 : decode b_Srv_init 13 = .ok (.putfield 15, 3) := by decide +kernel
theorem d_Srv_init_16 : decode b_Srv_init 16 = .ok (.aload_n 0, 1) := by decide +kernel
theorem d_Srv_init_17 : decode b_Srv_init 17 = .ok (.iload_n 3, 1) := by decide +kernel
theorem d_Srv_init_18 : decode b_Srv_init 18 = .ok (.putfield 18, 3) := by decide +kernel
theorem d_Srv_init_21 : decode b_Srv_init 21 = .ok (.aload_n 0, 1) := by decide +kernel
theorem d_Srv_init_22 : decode b_Srv_init 22 = .ok (.iload 4, 2) := by decide +kernel
theorem d_Srv_init_24 : decode b_Srv_init 24 = .ok (.putfield 21, 3) := by decide +kernel
theorem d_Srv_init_27 : decode b_Srv_init 27 = .ok (.aload_n 0, 1) := by decide +kernel
theorem d_Srv_init_28 : decode b_Srv_init 28 = .ok (.iload_n 2, 1) := by decide +kernel
theorem d_Srv_init_29 : decode b_Srv_init 29 = .ok (.anewarray 24, 3) := by decide +kernel
theorem d_Srv_init_32 : decode b_Srv_init 32 = .ok (.putfield 26, 3) := by decide +kernel
theorem d_Srv_init_35 : decode b_Srv_init 35 = .ok (.iconst 0, 1) := by decide +kernel
theorem d_Srv_init_36 : decode b_Srv_init 36 = .ok (.istore 5, 2) := by decide +kernel
theorem d_Srv_init_38 : decode b_Srv_init 38 = .ok (.iload 5, 2) := by decide +kernel
theorem d_Srv_init_40 : decode b_Srv_init 40 = .ok (.iload_n 2, 1) := by decide +kernel
theorem d_Srv_init_41 : decode b_Srv_init 41 = .ok (.if_icmp .ge 36, 3) := by decide +kernel
theorem d_Srv_init_44 : decode b_Srv_init 44 = .ok (.aload_n 0, 1) := by decide +kernel
theorem d_Srv_init_45 : decode b_Srv_init 45 = .ok (.getfield 26, 3) := by decide +kernel
theorem d_Srv_init_48 : decode b_Srv_init 48 = .ok (.iload 5, 2) := by decide +kernel
theorem d_Srv_init_50 : decode b_Srv_init 50 = .ok (.new 24, 3) := by decide +kernel
theorem d_Srv_init_53 : decode b_Srv_init 53 = .ok (.dup, 1) := by decide +kernel
theorem d_Srv_init_54 : decode b_Srv_init 54 = .ok (.iload 5, 2) := by decide +kernel
theorem d_Srv_init_56 : decode b_Srv_init 56 = .ok (.iconst 2, 1) := by decide +kernel
theorem d_Srv_init_57 : decode b_Srv_init 57 = .ok (.irem, 1) := by decide +kernel
theorem d_Srv_init_58 : decode b_Srv_init 58 = .ok (.iload_n 1, 1) := by decide +kernel
theorem d_Srv_init_59 : decode b_Srv_init 59 = .ok (.if_icmp .ne 7, 3) := by decide +kernel
theorem d_Srv_init_62 : decode b_Srv_init 62 = .ok (.iconst 1, 1) := by decide +kernel
theorem d_Srv_init_63 : decode b_Srv_init 63 = .ok (.goto 4, 3) := by decide +kernel
theorem d_Srv_init_66 : decode b_Srv_init 66 = .ok (.iconst 0, 1) := by decide +kernel
theorem d_Srv_init_67 : decode b_Srv_init 67 = .ok (.invokespecial 30, 3) := by decide +kernel
theorem d_Srv_init_70 : decode b_Srv_init 70 = .ok (.aastore, 1) := by decide +kernel
theorem d_Srv_init_71 : decode b_Srv_init 71 = .ok (.iinc 5 1, 3) := by decide +kernel
theorem d_Srv_init_74 : decode b_Srv_init 74 = .ok (.goto (-36), 3) := by decide +kernel
theorem d_Srv_init_77 : decode b_Srv_init 77 = .ok (.aload_n 0, 1) := by decide +kernel
theorem d_Srv_init_78 : decode b_Srv_init 78 = .ok (.iconst 2, 1) := by decide +kernel
theorem d_Srv_init_79 : decode b_Srv_init 79 = .ok (.putfield 33, 3) := by decide +kernel
theorem d_Srv_init_82 : decode b_Srv_init 82 = .ok (.aload_n 0, 1) := by decide +kernel
theorem d_Srv_init_83 : decode b_Srv_init 83 = .ok (.iconst 1, 1) := by decide +kernel
theorem d_Srv_init_84 : decode b_Srv_init 84 = .ok (.putfield 36, 3) := by decide +kernel
theorem d_Srv_init_87 : decode b_Srv_init 87 = .ok (.aload_n 0, 1) := by decide +kernel
theorem d_Srv_init_88 : decode b_Srv_init 88 = .ok (.iconst 1, 1) := by decide +kernel
theorem d_Srv_init_89 : decode b_Srv_init 89 = .ok (.putfield 39, 3) := by decide +kernel
theorem d_Srv_init_92 : decode b_Srv_init 92 = .ok (.aload_n 0, 1) := by decide +kernel
theorem d_Srv_init_93 : decode b_Srv_init 93 = .ok (.iconst 1, 1) := by decide +kernel
theorem d_Srv_init_94 : decode b_Srv_init 94 = .ok (.putfield 42, 3) := by decide +kernel
theorem d_Srv_init_97 : decode b_Srv_init 97 = .ok (.return_, 1) := by decide +kernel
set_option maxRecDepth 100000 in
set_option maxHeartbeats 4000000 in
theorem c_Srv_init (l : Launch) (K : Kx) (n : Nat) (kf : KF K n) (A B C D : MI) (P : MP) (s : Nat) (hs : s < 2) (ld sk : Int32) (hA : ∀ col, 10 ≤ col → col ≤ 22 → ∀ i, 32 * s ≤ i → A col i = 0) (hP : ∀ j, P (12 + s) j = none) : Ct l K md_Srv_init (2, 41) (n + 1) (14 * n) [.ref (K.ad 1 s), .int (nI s), .int (nI n), .int ld, .int sk] (Vz K (K.ad 1 s + 1)) (bk4 A B C D) P (EQ (Vz K (K.ad 1 s + 2 + n)) none (bk4 (srvA A s n) (srvB B s ld sk) C D) (srvP K P s n)) := by
  refine ct_of [(0, .ref (K.ad 1 s)), (1, .int (nI s)), (2, .int (nI n)), (3, .int ld), (4, .int sk)] (by decide) (Nat.le_of_ble_eq_true rfl) (ca_r (ca_i (ca_i (ca_i (ca_i ca_n))))) rfl ?_
  intro X hl hX
  have h : OkX X b_Srv_init R_Srv K := hX.1
  have hN : X.nL = 6 := hX.2.1
  have hin : X.meth.name = "<init>" := hX.2.2.2.2.2.1
  have hn32 := kf.1
  have hL : ∀ (k i : Nat), i + k = n → J X K (Vz K (K.ad 1 s + 2 + i)) (bk4 (recA A s i) (srvB B s ld sk) C D) (recP K (up P 4 s (some (K.aad (2 + s)))) s i) (1 + i) (n + 13 * i) 38 [(0, .ref (K.ad 1 s)), (1, .int (nI s)), (2, .int (nI n)), (5, .int (nI i))] [] := by
    intro k
    induction k with
    | zero =>
      intro i hi
      have hi2 : i = n := by omega
      subst hi2
      refine j_iload h d_Srv_init_38 rfl ?_
      refine j_iload_n h d_Srv_init_40 rfl ?_
      refine j_ic_ge (tgt := 77) h d_Srv_init_41 (by decide) (fun _ => ?_) (fun c => absurd (nI_le (Nat.le_refl _) (by omega)) c)
      refine j_aload_n h d_Srv_init_77 rfl ?_
      refine j_iconst (v := 2) h d_Srv_init_78 (by decide) ?_
      refine j_put0 h d_Srv_init_79 fw_Srv_33 rfl rfl (vz_o (kf_srv kf hs) (by omega)) ?_
      refine j_aload_n h d_Srv_init_82 rfl ?_
      refine j_iconst (v := 1) h d_Srv_init_83 (by decide) ?_
      refine j_put0 h d_Srv_init_84 fw_Srv_36 rfl rfl (vz_o (kf_srv kf hs) (by omega)) ?_
      refine j_aload_n h d_Srv_init_87 rfl ?_
      refine j_iconst (v := 1) h d_Srv_init_88 (by decide) ?_
      refine j_put0 h d_Srv_init_89 fw_Srv_39 rfl rfl (vz_o (kf_srv kf hs) (by omega)) ?_
      refine j_aload_n h d_Srv_init_92 rfl ?_
      refine j_iconst (v := 1) h d_Srv_init_93 (by decide) ?_
      refine j_put0 h d_Srv_init_94 fw_Srv_42 rfl rfl (vz_o (kf_srv kf hs) (by omega)) ?_
      exact j_vret hX d_Srv_init_97 rfl (by omega) (by omega) ⟨rfl, rfl, rfl, rfl⟩
    | succ k ih =>
      intro i hi
      have hi2 : i < n := by omega
      refine j_iload h d_Srv_init_38 rfl ?_
      refine j_iload_n h d_Srv_init_40 rfl ?_
      refine j_ic_ge (tgt := 77) h d_Srv_init_41 (by decide) (fun c => absurd c (nI_ge hi2 (by omega))) (fun _ => ?_)
      refine j_aload_n h d_Srv_init_44 rfl ?_
      refine j_getR h d_Srv_init_45 fl_Srv_26 rfl (vz_o (kf_srv kf hs) (by omega)) ((recP_c K _ s (by omega) i).trans (up_s _ _ _ _)) ?_
      refine j_iload h d_Srv_init_48 rfl ?_
      refine z_new (ci := 2) (i := 32 * s + i) (m := 13) h d_Srv_init_50 rfl rfl wcl_Srv_24 win_Rec wit_Rec (kf_rec kf hs hi2).1 (kf_rec kf hs hi2).2 (rec_df fun col h1 h2 => (recA_hi A s i (Nat.le_refl _)).trans (hA col h1 h2 _ (by omega))) (hf_of hX (by omega) (by omega)) ?_
      refine j_dup h d_Srv_init_53 rfl ?_
      refine j_iload h d_Srv_init_54 rfl ?_
      refine j_iconst (v := 2) h d_Srv_init_56 (by decide) ?_
      refine j_irem h d_Srv_init_57 (by decide) ?_
      refine j_iload_n h d_Srv_init_58 rfl ?_
      refine j_ic_ne (tgt := 66) h d_Srv_init_59 (by decide) (fun c => ?_) (fun c => ?_)
      · have e : recA A s (i + 1) = up (up (recA A s i) 10 (32 * s + i) 0) 11 (32 * s + i) (-1) := by
          show up (up (recA A s i) 10 (32 * s + i) (b01 (i % 2 = s))) 11 (32 * s + i) (-1) = _
          rw [b01_f (fun q => c (by rw [rem2 (by omega), q]))]
        refine j_iconst (v := 0) h d_Srv_init_66 (by decide) ?_
        refine j_callI h (c_Rec_init _ _ _ _ _ _ _ _ (32 * s + i) (vz_o (kf_rec kf hs hi2).2 (by have := (kf_rec kf hs hi2).1; omega)) _) d_Srv_init_67 ml_Srv_30 mo_Rec_init rfl rfl rfl rfl (Nat.le_of_ble_eq_true rfl) (hR_of hX (by decide) (by decide)) (hf_of hX (by omega) (by omega)) ?_
        rintro _ _ _ _ ⟨rfl, rfl, rfl, rfl⟩
        refine j_aast (ci := 2) (i := 32 * s + i) h d_Srv_init_70 (ai_rec hs).1 rfl ⟨by rw [(ai_rec hs).2]; rfl, by rw [(ai_rec hs).2]; decide⟩ (vz_a (kf_arr kf hs).2.1 (by have := (kf_arr kf hs).1; omega)) (vz_o (kf_rec kf hs hi2).2 (by have := (kf_rec kf hs hi2).1; omega)) rfl (by rw [(kf_arr kf hs).2.2]; exact hi2) (by rw [(kf_arr kf hs).2.2]; omega) ?_
        refine j_iinc (v := nI (i + 1)) h d_Srv_init_71 rfl (nI_i i) (Nat.lt_of_lt_of_eq (m := 6) (by decide) hN.symm) ?_
        refine j_goto (tgt := 38) h d_Srv_init_74 (by decide) ?_
        refine j_lv (lv' := [(0, .ref (K.ad 1 s)), (1, .int (nI s)), (2, .int (nI n)), (5, .int (nI (i + 1)))]) (lvs rfl (lvs rfl (lvs rfl (lvs rfl lvs0)))) ?_
        refine j_widen (k := 1 + (i + 1)) (n := n + 13 * (i + 1)) (by omega) (by omega) ?_
        rw [← e]
        exact ih (i + 1) (by omega)
      · have e : recA A s (i + 1) = up (up (recA A s i) 10 (32 * s + i) 1) 11 (32 * s + i) (-1) := by
          show up (up (recA A s i) 10 (32 * s + i) (b01 (i % 2 = s))) 11 (32 * s + i) (-1) = _
          rw [b01_t ((nI_eq (by omega) (by omega)).mp (by rw [← rem2 (by omega)]; exact c))]
        refine j_iconst (v := 1) h d_Srv_init_62 (by decide) ?_
        refine j_goto (tgt := 67) h d_Srv_init_63 (by decide) ?_
        refine j_callI h (c_Rec_init _ _ _ _ _ _ _ _ (32 * s + i) (vz_o (kf_rec kf hs hi2).2 (by have := (kf_rec kf hs hi2).1; omega)) _) d_Srv_init_67 ml_Srv_30 mo_Rec_init rfl rfl rfl rfl (Nat.le_of_ble_eq_true rfl) (hR_of hX (by decide) (by decide)) (hf_of hX (by omega) (by omega)) ?_
        rintro _ _ _ _ ⟨rfl, rfl, rfl, rfl⟩
        refine j_aast (ci := 2) (i := 32 * s + i) h d_Srv_init_70 (ai_rec hs).1 rfl ⟨by rw [(ai_rec hs).2]; rfl, by rw [(ai_rec hs).2]; decide⟩ (vz_a (kf_arr kf hs).2.1 (by have := (kf_arr kf hs).1; omega)) (vz_o (kf_rec kf hs hi2).2 (by have := (kf_rec kf hs hi2).1; omega)) rfl (by rw [(kf_arr kf hs).2.2]; exact hi2) (by rw [(kf_arr kf hs).2.2]; omega) ?_
        refine j_iinc (v := nI (i + 1)) h d_Srv_init_71 rfl (nI_i i) (Nat.lt_of_lt_of_eq (m := 6) (by decide) hN.symm) ?_
        refine j_goto (tgt := 38) h d_Srv_init_74 (by decide) ?_
        refine j_lv (lv' := [(0, .ref (K.ad 1 s)), (1, .int (nI s)), (2, .int (nI n)), (5, .int (nI (i + 1)))]) (lvs rfl (lvs rfl (lvs rfl (lvs rfl lvs0)))) ?_
        refine j_widen (k := 1 + (i + 1)) (n := n + 13 * (i + 1)) (by omega) (by omega) ?_
        rw [← e]
        exact ih (i + 1) (by omega)
  refine j_aload_n h d_Srv_init_0 rfl ?_
  refine j_obj h d_Srv_init_1 wo_Srv (hM2_of hX (by decide) (Nat.le_of_ble_eq_true rfl)) ?_
  refine j_aload_n h d_Srv_init_4 rfl ?_
  refine j_iload_n h d_Srv_init_5 rfl ?_
  refine j_putF1 h hin d_Srv_init_6 fi_Srv_9 rfl rfl (vz_o (kf_srv kf hs) (by omega)) ?_
  refine j_aload_n h d_Srv_init_9 rfl ?_
  refine j_iconst (v := 1) h d_Srv_init_10 (by decide) ?_
  refine j_iload_n h d_Srv_init_11 rfl ?_
  refine j_isub h d_Srv_init_12 ?_
  refine j_putF1 h hin d_Srv_init_13 fi_Srv_15 rfl rfl (vz_o (kf_srv kf hs) (by omega)) ?_
  refine j_aload_n h d_Srv_init_16 rfl ?_
  refine j_iload_n h d_Srv_init_17 rfl ?_
  refine j_putF1 h hin d_Srv_init_18 fi_Srv_18 rfl rfl (vz_o (kf_srv kf hs) (by omega)) ?_
  refine j_aload_n h d_Srv_init_21 rfl ?_
  refine j_iload h d_Srv_init_22 rfl ?_
  refine j_putF1 h hin d_Srv_init_24 fi_Srv_21 rfl rfl (vz_o (kf_srv kf hs) (by omega)) ?_
  refine j_aload_n h d_Srv_init_27 rfl ?_
  refine j_iload_n h d_Srv_init_28 rfl ?_
  refine z_anewa (a := 2 + s) (col := 12 + s) h d_Srv_init_29 wcl_Srv_24 wao_Rec (by rw [(ai_rec hs).2]; rfl) (by rw [(ai_rec hs).2]; decide) (kf_arr kf hs).2.2 (by omega) rfl (kf_arr kf hs).1 (kf_arr kf hs).2.1 (ai_rec hs).1 hP (hf_of hX (by omega) (by omega)) ?_
  refine j_putFR h hin d_Srv_init_32 fi_Srv_26 rfl ⟨rfl, rfl⟩ (vz_o (kf_srv kf hs) (by omega)) ?_
  refine j_iconst (v := 0) h d_Srv_init_35 (by decide) ?_
  refine j_istore h d_Srv_init_36 (Nat.lt_of_lt_of_eq (m := 6) (by decide) hN.symm) ?_
  refine j_lv (lv' := [(0, .ref (K.ad 1 s)), (1, .int (nI s)), (2, .int (nI n)), (5, .int (nI 0))]) (lvs rfl (lvs rfl (lvs rfl (lvs rfl lvs0)))) ?_
  refine j_widen (k := 1 + 0) (n := n + 13 * 0) (by omega) (by omega) ?_
  exact hL n 0 (by omega)
