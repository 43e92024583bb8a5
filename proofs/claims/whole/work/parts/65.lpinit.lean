/-! the constructor of the pair -/
def cliA (A : MI) : Nat → MI
  | 0 => A
  | j + 1 => up (cliA A j) 30 j (-1)
theorem cliA_hi (A : MI) {col i : Nat} : ∀ j, j ≤ i → cliA A j col i = A col i
  | 0, _ => rfl
  | j + 1, h => by
    show up (cliA A j) 30 j (-1) col i = _
    rw [up_i _ _ (by omega)]
    exact cliA_hi A j (by omega)
theorem cliA_c (A : MI) {col i : Nat} (h : col ≠ 30) : ∀ j, cliA A j col i = A col i
  | 0 => rfl
  | j + 1 => by
    show up (cliA A j) 30 j (-1) col i = _
    rw [up_c _ _ h]
    exact cliA_c A h j
theorem cliA_lt (A : MI) {i : Nat} : ∀ j, i < j → cliA A j 30 i = -1
  | 0, h => absurd h (by omega)
  | j + 1, h => by
    show up (cliA A j) 30 j (-1) 30 i = _
    by_cases q : i = j
    · subst q; rw [up_s]
    · rw [up_i _ _ q]; exact cliA_lt A j (by omega)
def cliP (K : Kx) (P : MP) : Nat → MP
  | 0 => P
  | j + 1 => up (cliP K P j) 11 j (some (K.ad 3 j))
theorem cliP_c (K : Kx) (P : MP) {col i : Nat} (h : col ≠ 11) : ∀ j, cliP K P j col i = P col i
  | 0 => rfl
  | j + 1 => by
    show up (cliP K P j) 11 j _ col i = _
    rw [up_c _ _ h]
    exact cliP_c K P h j
theorem cliP_lt (K : Kx) (P : MP) {i : Nat} : ∀ j, i < j → cliP K P j 11 i = some (K.ad 3 i)
  | 0, h => absurd h (by omega)
  | j + 1, h => by
    show up (cliP K P j) 11 j _ 11 i = _
    by_cases q : i = j
    · subst q; rw [up_s]
    · rw [up_i _ _ q]; exact cliP_lt K P j (by omega)
theorem srvA_c (A : MI) (s n : Nat) {col i : Nat} (h : 10 ≤ col) (h1 : col ≠ 10) (h2 : col ≠ 11) : srvA A s n col i = A col i := by
  unfold srvA
  rw [up_c _ _ (by omega), up_c _ _ (by omega), up_c _ _ (by omega), up_c _ _ (by omega)]
  exact recA_c A s h1 h2 n
theorem srvA_s (A : MI) (s n : Nat) {col i : Nat} (h : col < 10) (h1 : i ≠ s) : srvA A s n col i = A col i := by
  unfold srvA
  rw [up_i _ _ h1, up_i _ _ h1, up_i _ _ h1, up_i _ _ h1]
  exact recA_c A s (by omega) (by omega) n
theorem srvA_hi (A : MI) (s n : Nat) {col i : Nat} (h : 10 ≤ col) (h1 : 32 * s + n ≤ i) : srvA A s n col i = A col i := by
  unfold srvA
  rw [up_c _ _ (by omega), up_c _ _ (by omega), up_c _ _ (by omega), up_c _ _ (by omega)]
  exact recA_hi A s n h1
theorem srvP_c (K : Kx) (P : MP) (s n : Nat) {col i : Nat} (h : col ≠ 12 + s) (h2 : col ≠ 4 ∨ i ≠ s) : srvP K P s n col i = P col i := by
  unfold srvP
  rw [recP_c K _ s h]
  rcases h2 with q | q
  · exact up_c _ _ q
  · exact up_i _ _ q
theorem srvB_i (B : MI) (s : Nat) (ld sk : Int32) {col i : Nat} (h : i ≠ s ∨ 70 ≤ col) : srvB B s ld sk col i = B col i := by
  unfold srvB
  rcases h with q | q
  · rw [up_i _ _ q, up_i _ _ q, up_i _ _ q, up_i _ _ q]
  · rw [up_c _ _ (by omega), up_c _ _ (by omega), up_c _ _ (by omega), up_c _ _ (by omega)]
theorem kf_lp {K : Kx} {n : Nat} (kf : KF K n) : (K.pv 0 0 ∧ K.ad 0 0 = K.base) ∧ (K.aad 0 = K.base + 1 ∧ K.pa 0 ∧ K.alen 0 = 2) ∧ (K.ad 1 0 = K.base + 2 ∧ K.ad 1 1 = K.base + 4 + n) ∧ (K.aad 1 = K.base + 6 + 2 * n ∧ K.pa 1 ∧ K.alen 1 = 16) ∧ K.ad 4 0 = K.base + 23 + 2 * n := by
  rw [kf.2.1, kf.2.2.1, kf.2.2.2.1, kf.2.2.2.2.2, kf.2.2.2.2.1]
  exact ⟨⟨rfl, rfl⟩, ⟨rfl, Or.inl (by decide), rfl⟩, ⟨rfl, rfl⟩, ⟨rfl, Or.inl (by decide), rfl⟩, rfl⟩
theorem kf_cli {K : Kx} {n c : Nat} (kf : KF K n) (hc : c < 16) : K.ad 3 c = K.base + 7 + 2 * n + c ∧ K.pv 3 c := by
  rw [kf.2.1, kf.2.2.2.2.1]
  exact ⟨rfl, hc⟩
theorem srv_df {A B C D : MI} {P : MP} {r : Nat} (h : ∀ col, col < 8 → A col r = 0) (hb : ∀ col, 60 ≤ col → col < 64 → B col r = 0) (hp : P 4 r = none) : ∀ j, j < 13 → defaultValue (ftyp 1 j) = fval (bk4 A B C D) P (cinf 1 j) r := by
  intro j hj
  match j, hj with
  | 0, _ => exact congrArg Value.int (hb 60 (by decide) (by decide)).symm
  | 1, _ => exact congrArg Value.int (hb 61 (by decide) (by decide)).symm
  | 2, _ => exact congrArg Value.int (hb 62 (by decide) (by decide)).symm
  | 3, _ => exact congrArg Value.int (hb 63 (by decide) (by decide)).symm
  | 4, _ => exact congrArg va_rf (hp).symm
  | 5, _ => exact congrArg Value.int (h 1 (by decide)).symm
  | 6, _ => exact congrArg Value.int (h 0 (by decide)).symm
  | 7, _ => exact congrArg Value.int (h 2 (by decide)).symm
  | 8, _ => exact congrArg Value.int (h 3 (by decide)).symm
  | 9, _ => exact congrArg Value.int (h 4 (by decide)).symm
  | 10, _ => exact congrArg Value.int (h 5 (by decide)).symm
  | 11, _ => exact congrArg Value.int (h 7 (by decide)).symm
  | 12, _ => exact congrArg Value.int (h 6 (by decide)).symm
  | k + 13, hk => exact absurd hk (by omega)
theorem cli_df {A B C D : MI} {P : MP} {r : Nat} (h : ∀ col, 30 ≤ col → col < 34 → A col r = 0) : ∀ j, j < 4 → defaultValue (ftyp 3 j) = fval (bk4 A B C D) P (cinf 3 j) r := by
  intro j hj
  match j, hj with
  | 0, _ => exact congrArg Value.int (h 32 (by decide) (by decide)).symm
  | 1, _ => exact congrArg Value.int (h 33 (by decide) (by decide)).symm
  | 2, _ => exact congrArg Value.int (h 30 (by decide) (by decide)).symm
  | 3, _ => exact congrArg Value.int (h 31 (by decide) (by decide)).symm
  | k + 4, hk => exact absurd hk (by omega)
theorem net_df {A B C D : MI} {P : MP} {r : Nat} (h : ∀ col, 70 ≤ col → col < 73 → B col r = 0) (h5 : P 5 r = none) (h6 : P 6 r = none) : ∀ j, j < 5 → defaultValue (ftyp 4 j) = fval (bk4 A B C D) P (cinf 4 j) r := by
  intro j hj
  match j, hj with
  | 0, _ => exact congrArg va_rf (h5).symm
  | 1, _ => exact congrArg va_rf (h6).symm
  | 2, _ => exact congrArg Value.int (h 70 (by decide) (by decide)).symm
  | 3, _ => exact congrArg Value.int (h 71 (by decide) (by decide)).symm
  | 4, _ => exact congrArg Value.int (h 72 (by decide) (by decide)).symm
  | k + 5, hk => exact absurd hk (by omega)
def lpA (A : MI) (n : Nat) (sk : Int32) : MI := cliA (srvA (srvA (up (up A 42 0 (nI n)) 44 0 sk) 0 n) 1 n) 16
def lpB (B : MI) (ld sk : Int32) : MI := srvB (srvB B 0 ld sk) 1 ld sk
def lpP (K : Kx) (P : MP) (n : Nat) : MP := up (up (netPP K (cliP K (up (up (srvP K (up (srvP K (up P 0 0 (some (K.aad 0))) 0 n) 10 0 (some (K.ad 1 0))) 1 n) 10 1 (some (K.ad 1 1))) 1 0 (some (K.aad 1))) 16)) 2 0 (some (K.ad 4 0))) 3 0 (some (K.ad 5 600))
theorem d_LP_init_0 : decode b_LP_init 0 = .ok (.aload_n 0, 1) := by decide +kernel
theorem d_LP_init_1 : decode b_LP_init 1 = .ok (.invokespecial 1, 3) := by decide +kernel
theorem d_LP_init_4 : decode b_LP_init 4 = .ok (.aload_n 0, 1) := by decide +kernel
theorem d_LP_init_5 : decode b_LP_init 5 = .ok (.iload_n 1, 1) := by decide +kernel
theorem d_LP_init_6 : decode b_LP_init 6 = .ok (.iconst 2, 1) := by decide +kernel
theorem d_LP_init_7 : decode b_LP_init 7 = .ok (.bipush 32, 2) := by decide +kernel
theorem d_LP_init_9 : decode b_LP_init 9 = .ok (.invokestatic 9, 3) := by decide +kernel
theorem d_LP_init_12 : decode b_LP_init 12 = .ok (.putfield 13, 3) := by decide +kernel
theorem d_LP_init_15 : decode b_LP_init 15 = .ok (.aload_n 0, 1) := by decide +kernel
theorem d_LP_init_16 : decode b_LP_init 16 = .ok (.iload_n 3, 1) := by decide +kernel
theorem d_LP_init_17 : decode b_LP_init 17 = .ok (.iconst 0, 1) := by decide +kernel
theorem d_LP_init_18 : decode b_LP_init 18 = .ok (.sipush 1000, 3) := by decide +kernel
theorem d_LP_init_21 : decode b_LP_init 21 = .ok (.invokestatic 9, 3) := by decide +kernel
theorem d_LP_init_24 : decode b_LP_init 24 = .ok (.putfield 17, 3) := by decide +kernel
theorem d_LP_init_27 : decode b_LP_init 27 = .ok (.iload_n 2, 1) := by decide +kernel
theorem d_LP_init_28 : decode b_LP_init 28 = .ok (.iconst 1, 1) := by decide +kernel
theorem d_LP_init_29 : decode b_LP_init 29 = .ok (.sipush 10000, 3) := by decide +kernel
theorem d_LP_init_32 : decode b_LP_init 32 = .ok (.invokestatic 9, 3) := by decide +kernel
theorem d_LP_init_35 : decode b_LP_init 35 = .ok (.istore 4, 2) := by decide +kernel
theorem d_LP_init_37 : decode b_LP_init 37 = .ok (.aload_n 0, 1) := by decide +kernel
theorem d_LP_init_38 : decode b_LP_init 38 = .ok (.iconst 2, 1) := by decide +kernel
theorem d_LP_init_39 : decode b_LP_init 39 = .ok (.anewarray 20, 3) := by decide +kernel
theorem d_LP_init_42 : decode b_LP_init 42 = .ok (.putfield 22, 3) := by decide +kernel
theorem d_LP_init_45 : decode b_LP_init 45 = .ok (.iconst 0, 1) := by decide +kernel
theorem d_LP_init_46 : decode b_LP_init 46 = .ok (.istore 5, 2) := by decide +kernel
theorem d_LP_init_48 : decode b_LP_init 48 = .ok (.iload 5, 2) := by decide +kernel
theorem d_LP_init_50 : decode b_LP_init 50 = .ok (.iconst 2, 1) := by decide +kernel
theorem d_LP_init_51 : decode b_LP_init 51 = .ok (.if_icmp .ge 35, 3) := by decide +kernel
theorem d_LP_init_54 : decode b_LP_init 54 = .ok (.aload_n 0, 1) := by decide +kernel
theorem d_LP_init_55 : decode b_LP_init 55 = .ok (.getfield 22, 3) := by decide +kernel
theorem d_LP_init_58 : decode b_LP_init 58 = .ok (.iload 5, 2) := by decide +kernel
theorem d_LP_init_60 : decode b_LP_init 60 = .ok (.new 20, 3) := by decide +kernel
theorem d_LP_init_63 : decode b_LP_init 63 = .ok (.dup, 1) := by decide +kernel
theorem d_LP_init_64 : decode b_LP_init 64 = .ok (.iload 5, 2) := by decide +kernel
theorem d_LP_init_66 : decode b_LP_init 66 = .ok (.aload_n 0, 1) := by decide +kernel
theorem d_LP_init_67 : decode b_LP_init 67 = .ok (.getfield 13, 3) := by decide +kernel
theorem d_LP_init_70 : decode b_LP_init 70 = .ok (.iload 4, 2) := by decide +kernel
theorem d_LP_init_72 : decode b_LP_init 72 = .ok (.aload_n 0, 1) := by decide +kernel
theorem d_LP_init_73 : decode b_LP_init 73 = .ok (.getfield 17, 3) := by decide +kernel
theorem d_LP_init_76 : decode b_LP_init 76 = .ok (.invokespecial 26, 3) := by decide +kernel
theorem d_LP_init_79 : decode b_LP_init 79 = .ok (.aastore, 1) := by decide +kernel
theorem d_LP_init_80 : decode b_LP_init 80 = .ok (.iinc 5 1, 3) := by decide +kernel
theorem d_LP_init_83 : decode b_LP_init 83 = .ok (.goto (-35), 3) := by decide +kernel
theorem d_LP_init_86 : decode b_LP_init 86 = .ok (.aload_n 0, 1) := by decide +kernel
theorem d_LP_init_87 : decode b_LP_init 87 = .ok (.bipush 16, 2) := by decide +kernel
theorem d_LP_init_89 : decode b_LP_init 89 = .ok (.anewarray 29, 3) := by decide +kernel
theorem d_LP_init_92 : decode b_LP_init 92 = .ok (.putfield 31, 3) := by decide +kernel
theorem d_LP_init_95 : decode b_LP_init 95 = .ok (.iconst 0, 1) := by decide +kernel
theorem d_LP_init_96 : decode b_LP_init 96 = .ok (.istore 5, 2) := by decide +kernel
theorem d_LP_init_98 : decode b_LP_init 98 = .ok (.iload 5, 2) := by decide +kernel
theorem d_LP_init_100 : decode b_LP_init 100 = .ok (.bipush 16, 2) := by decide +kernel
theorem d_LP_init_102 : decode b_LP_init 102 = .ok (.if_icmp .ge 23, 3) := by decide +kernel
theorem d_LP_init_105 : decode b_LP_init 105 = .ok (.aload_n 0, 1) := by decide +kernel
theorem d_LP_init_106 : decode b_LP_init 106 = .ok (.getfield 31, 3) := by decide +kernel
theorem d_LP_init_109 : decode b_LP_init 109 = .ok (.iload 5, 2) := by decide +kernel
theorem d_LP_init_111 : decode b_LP_init 111 = .ok (.new 29, 3) := by decide +kernel
theorem d_LP_init_114 : decode b_LP_init 114 = .ok (.dup, 1) := by decide +kernel
theorem d_LP_init_115 : decode b_LP_init 115 = .ok (.invokespecial 35, 3) := by decide +kernel
theorem d_LP_init_118 : decode b_LP_init 118 = .ok (.aastore, 1) := by decide +kernel
theorem d_LP_init_119 : decode b_LP_init 119 = .ok (.iinc 5 1, 3) := by decide +kernel
theorem d_LP_init_122 : decode b_LP_init 122 = .ok (.goto (-24), 3) := by decide +kernel
theorem d_LP_init_125 : decode b_LP_init 125 = .ok (.aload_n 0, 1) := by decide +kernel
theorem d_LP_init_126 : decode b_LP_init 126 = .ok (.new 36, 3) := by decide +kernel
theorem d_LP_init_129 : decode b_LP_init 129 = .ok (.dup, 1) := by decide +kernel
theorem d_LP_init_130 : decode b_LP_init 130 = .ok (.invokespecial 38, 3) := by decide +kernel
theorem d_LP_init_133 : decode b_LP_init 133 = .ok (.putfield 39, 3) := by decide +kernel
theorem d_LP_init_136 : decode b_LP_init 136 = .ok (.aload_n 0, 1) := by decide +kernel
theorem d_LP_init_137 : decode b_LP_init 137 = .ok (.new 43, 3) := by decide +kernel
theorem d_LP_init_140 : decode b_LP_init 140 = .ok (.dup, 1) := by decide +kernel
theorem d_LP_init_141 : decode b_LP_init 141 = .ok (.invokespecial 45, 3) := by decide +kernel
theorem d_LP_init_144 : decode b_LP_init 144 = .ok (.putfield 46, 3) := by decide +kernel
theorem d_LP_init_147 : decode b_LP_init 147 = .ok (.return_, 1) := by decide +kernel
set_option maxRecDepth 100000 in
set_option maxHeartbeats 4000000 in
theorem c_LP_init (l : Launch) (K : Kx) (n : Nat) (kf : KF K n) (A B C D : MI) (P : MP) (n0 ld0 sk0 : Int32) (hn : ls_ (gr n0 2) 32 = nI n) (hA : ∀ col, col < 40 → ∀ i, A col i = 0) (hB : ∀ col i, B col i = 0) (hP : ∀ col j, P col j = none) : Ct l K md_LP_init (3, 66) (2 * n + 626) (28 * n + 9800) [.ref (K.ad 0 0), .int n0, .int ld0, .int sk0] (Vz K (K.base + 1)) (bk4 A B C D) P (EQ (Vz K (K.base + 627 + 2 * n)) none (bk4 (lpA A n (ls_ (gr sk0 0) 1000)) (lpB B (ls_ (gr ld0 1) 10000) (ls_ (gr sk0 0) 1000)) C D) (lpP K P n)) := by
  refine ct_of [(0, .ref (K.ad 0 0)), (1, .int n0), (2, .int ld0), (3, .int sk0)] (by decide) (Nat.le_of_ble_eq_true rfl) (ca_r (ca_i (ca_i (ca_i ca_n)))) rfl ?_
  intro X hl hX
  have h : OkX X b_LP_init R_LP K := hX.1
  have hN : X.nL = 6 := hX.2.1
  have hin : X.meth.name = "<init>" := hX.2.2.2.2.2.1
  have hn32 := kf.1
  have h00 := (kf_lp kf).1.2
  have h01 := (kf_lp kf).2.2.1.1
  have h02 := (kf_lp kf).2.2.1.2
  have hL : ∀ (k i : Nat), i + k = 16 → J X K (Vz K (K.base + 7 + 2 * n + i)) (bk4 (cliA (srvA (srvA (up (up A 42 0 (nI n)) 44 0 (ls_ (gr sk0 0) 1000)) 0 n) 1 n) i) (srvB (srvB B 0 (ls_ (gr ld0 1) 10000) (ls_ (gr sk0 0) 1000)) 1 (ls_ (gr ld0 1) 10000) (ls_ (gr sk0 0) 1000)) C D) (cliP K (up (up (srvP K (up (srvP K (up P 0 0 (some (K.aad 0))) 0 n) 10 0 (some (K.ad 1 0))) 1 n) 10 1 (some (K.ad 1 1))) 1 0 (some (K.aad 1))) i) (2 * n + 6 + i) (28 * n + 44 + 5 * i) 98 [(0, .ref (K.ad 0 0)), (5, .int (nI i))] [] := by
    intro k
    induction k with
    | zero =>
      intro i hi
      have hi2 : i = 16 := by omega
      subst hi2
      refine j_iload h d_LP_init_98 rfl ?_
      refine j_bipush (v := nI 16) h d_LP_init_100 (by decide +kernel) ?_
      refine j_ic_ge (tgt := 125) h d_LP_init_102 (by decide) (fun _ => ?_) (fun c => absurd (nI_le (Nat.le_refl _) (by decide)) c)
      refine j_aload_n h d_LP_init_125 rfl ?_
      refine z_new (ci := 4) (i := 0) (m := 5) h d_LP_init_126 rfl rfl wcl_LP_36 win_Net wit_Net (by have := (kf_lp kf).2.2.2.2; omega) (kf_net kf).1 (net_df (fun col h1 h2 => (srvB_i _ 1 _ _ (Or.inr (by omega))).trans ((srvB_i _ 0 _ _ (Or.inr (by omega))).trans (hB col 0))) ((cliP_c K _ (by decide) 16).trans ((up_c _ _ (by decide)).trans ((up_c _ _ (by decide)).trans ((srvP_c K _ 1 n (by decide) (Or.inl (by decide))).trans ((up_c _ _ (by decide)).trans ((srvP_c K _ 0 n (by decide) (Or.inl (by decide))).trans ((up_c _ _ (by decide)).trans (hP 5 0)))))))) ((cliP_c K _ (by decide) 16).trans ((up_c _ _ (by decide)).trans ((up_c _ _ (by decide)).trans ((srvP_c K _ 1 n (by decide) (Or.inl (by decide))).trans ((up_c _ _ (by decide)).trans ((srvP_c K _ 0 n (by decide) (Or.inl (by decide))).trans ((up_c _ _ (by decide)).trans (hP 6 0))))))))) (hf_of hX (by omega) (by omega)) ?_
      refine j_dup h d_LP_init_129 rfl ?_
      refine j_V (congrArg (Vz K) (show _ = K.ad 4 0 + 1 by have := (kf_lp kf).2.2.2.2; omega)) ?_
      refine j_callI h (c_Net_init _ _ n kf _ _ _ _ _ (fun col h1 h2 i => (srvB_i _ 1 _ _ (Or.inr (by omega))).trans ((srvB_i _ 0 _ _ (Or.inr (by omega))).trans (hB col i))) (fun j => (cliP_c K _ (by decide) 16).trans ((up_c _ _ (by decide)).trans ((up_c _ _ (by decide)).trans ((srvP_c K _ 1 n (by decide) (Or.inl (by decide))).trans ((up_c _ _ (by decide)).trans ((srvP_c K _ 0 n (by decide) (Or.inl (by decide))).trans ((up_c _ _ (by decide)).trans (hP 14 j)))))))) (fun j => (cliP_c K _ (by decide) 16).trans ((up_c _ _ (by decide)).trans ((up_c _ _ (by decide)).trans ((srvP_c K _ 1 n (by decide) (Or.inl (by decide))).trans ((up_c _ _ (by decide)).trans ((srvP_c K _ 0 n (by decide) (Or.inl (by decide))).trans ((up_c _ _ (by decide)).trans (hP 15 j))))))))) d_LP_init_130 ml_LP_38 mo_Net_init rfl rfl rfl rfl (Nat.le_of_ble_eq_true rfl) (hR_of hX (by decide) (by decide)) (hf_of hX (by omega) (by omega)) ?_
      rintro _ _ _ _ ⟨rfl, rfl, rfl, rfl⟩
      refine j_putFR h hin d_LP_init_133 fi_LP_39 rfl ⟨rfl, rfl⟩ (vz_o (kf_lp kf).1.1 (by have := (kf_lp kf).1.2; have := (kf_lp kf).2.2.1; have := (kf_lp kf).2.2.2.2; omega)) ?_
      refine j_aload_n h d_LP_init_136 rfl ?_
      refine z_new (ci := 5) (i := 600) (m := 15) h d_LP_init_137 rfl rfl wcl_LP_43 win_Msg wit_Msg (by have := (kf_msg (q := 600) kf (by decide)).1; omega) (kf_msg (q := 600) kf (by decide)).2 (msg_df fun col h1 h2 => (srvB_i _ 1 _ _ (Or.inr (by omega))).trans ((srvB_i _ 0 _ _ (Or.inr (by omega))).trans (hB col 600))) (hf_of hX (by omega) (by omega)) ?_
      refine j_dup h d_LP_init_140 rfl ?_
      refine j_callIN (n := 0) (host := "LeasePair") h (c_Msg_init _ _ _ _ _ _ _ _ 600 (vz_o (kf_msg (q := 600) kf (by decide)).2 (by have := (kf_msg (q := 600) kf (by decide)).1; omega))) d_LP_init_141 (by decide +kernel) wk_Msg_init wit_Msg mo_Msg_init rfl rfl (by decide +kernel) rfl rfl (Nat.le_of_ble_eq_true rfl) (hR_of hX (by decide) (by decide)) (hf_of hX (by omega) (by omega)) ?_
      rintro _ _ _ _ ⟨rfl, rfl, rfl, rfl⟩
      refine j_putFR h hin d_LP_init_144 fi_LP_46 rfl ⟨rfl, rfl⟩ (vz_o (kf_lp kf).1.1 (by have := (kf_lp kf).1.2; have := (kf_lp kf).2.2.1; have := (kf_lp kf).2.2.2.2; omega)) ?_
      refine j_V (congrArg (Vz K) (show _ = K.base + 627 + 2 * n by have := (kf_lp kf).2.2.2.2; omega)) ?_
      exact j_vret hX d_LP_init_147 rfl (by omega) (by omega) ⟨rfl, rfl, rfl, rfl⟩
    | succ k ih =>
      intro i hi
      have hi2 : i < 16 := by omega
      refine j_iload h d_LP_init_98 rfl ?_
      refine j_bipush (v := nI 16) h d_LP_init_100 (by decide +kernel) ?_
      refine j_ic_ge (tgt := 125) h d_LP_init_102 (by decide) (fun c => absurd c (nI_ge hi2 (by decide))) (fun _ => ?_)
      refine j_aload_n h d_LP_init_105 rfl ?_
      refine j_getR h d_LP_init_106 fl_LP_31 rfl (vz_o (kf_lp kf).1.1 (by have := (kf_lp kf).1.2; have := (kf_lp kf).2.2.1; have := (kf_lp kf).2.2.2.2; omega)) ((cliP_c K _ (by decide) i).trans (up_s _ _ _ _)) ?_
      refine j_iload h d_LP_init_109 rfl ?_
      refine z_new (ci := 3) (i := i) (m := 4) h d_LP_init_111 rfl rfl wcl_LP_29 win_Cli wit_Cli (by have := (kf_cli kf hi2).1; omega) (kf_cli kf hi2).2 (cli_df fun col h1 h2 => (cliA_hi _ i (Nat.le_refl _)).trans ((srvA_c _ 1 n (by omega) (by omega) (by omega)).trans ((srvA_c _ 0 n (by omega) (by omega) (by omega)).trans ((up_c _ _ (by omega)).trans ((up_c _ _ (by omega)).trans (hA col (by omega) i)))))) (hf_of hX (by omega) (by omega)) ?_
      refine j_dup h d_LP_init_114 rfl ?_
      refine j_callI h (c_Cli_init _ _ _ _ _ _ _ _ i (vz_o (kf_cli kf hi2).2 (by have := (kf_cli kf hi2).1; omega))) d_LP_init_115 ml_LP_35 mo_Cli_init rfl rfl rfl rfl (Nat.le_of_ble_eq_true rfl) (hR_of hX (by decide) (by decide)) (hf_of hX (by omega) (by omega)) ?_
      rintro _ _ _ _ ⟨rfl, rfl, rfl, rfl⟩
      refine j_aast (a := 1) (b := 9) (col := 11) (ci := 3) (i := i) h d_LP_init_118 rfl rfl ⟨rfl, by decide⟩ (vz_a (kf_lp kf).2.2.2.1.2.1 (by have := (kf_lp kf).2.2.2.1.1; omega)) (vz_o (kf_cli kf hi2).2 (by have := (kf_cli kf hi2).1; omega)) rfl (by rw [(kf_lp kf).2.2.2.1.2.2]; exact hi2) (by rw [(kf_lp kf).2.2.2.1.2.2]; decide) ?_
      refine j_iinc (v := nI (i + 1)) h d_LP_init_119 rfl (nI_i i) (Nat.lt_of_lt_of_eq (m := 6) (by decide) hN.symm) ?_
      refine j_goto (tgt := 98) h d_LP_init_122 (by decide) ?_
      refine j_lv (lv' := [(0, .ref (K.ad 0 0)), (5, .int (nI (i + 1)))]) (lvs rfl (lvs rfl lvs0)) ?_
      refine j_widen (k := 2 * n + 6 + (i + 1)) (n := 28 * n + 44 + 5 * (i + 1)) (by omega) (by omega) ?_
      exact ih (i + 1) (by omega)
  refine j_aload_n h d_LP_init_0 rfl ?_
  refine j_obj h d_LP_init_1 wo_LP (hM2_of hX (by decide) (Nat.le_of_ble_eq_true rfl)) ?_
  refine j_aload_n h d_LP_init_4 rfl ?_
  refine j_iload_n h d_LP_init_5 rfl ?_
  refine j_iconst (v := 2) h d_LP_init_6 (by decide) ?_
  refine j_bipush (v := 32) h d_LP_init_7 (by decide) ?_
  refine j_callS h (c_LP_within _ _ _ _ _ _ _ _ _ _ _) d_LP_init_9 ml_LP_9 ms_LP_within rfl rfl (Nat.le_of_ble_eq_true rfl) (hR_of hX (by decide) (by decide)) (hf_of hX (by omega) (by omega)) ?_
  rintro _ _ _ _ ⟨rfl, rfl, rfl, rfl⟩
  rw [hn]
  refine j_putF0 h hin d_LP_init_12 fi_LP_13 rfl rfl (vz_o (kf_lp kf).1.1 (by omega)) ?_
  refine j_aload_n h d_LP_init_15 rfl ?_
  refine j_iload_n h d_LP_init_16 rfl ?_
  refine j_iconst (v := 0) h d_LP_init_17 (by decide) ?_
  refine j_sipush (v := 1000) h d_LP_init_18 (by decide) ?_
  refine j_callS h (c_LP_within _ _ _ _ _ _ _ _ _ _ _) d_LP_init_21 ml_LP_9 ms_LP_within rfl rfl (Nat.le_of_ble_eq_true rfl) (hR_of hX (by decide) (by decide)) (hf_of hX (by omega) (by omega)) ?_
  rintro _ _ _ _ ⟨rfl, rfl, rfl, rfl⟩
  refine j_putF0 h hin d_LP_init_24 fi_LP_17 rfl rfl (vz_o (kf_lp kf).1.1 (by omega)) ?_
  refine j_iload_n h d_LP_init_27 rfl ?_
  refine j_iconst (v := 1) h d_LP_init_28 (by decide) ?_
  refine j_sipush (v := 10000) h d_LP_init_29 (by decide) ?_
  refine j_callS h (c_LP_within _ _ _ _ _ _ _ _ _ _ _) d_LP_init_32 ml_LP_9 ms_LP_within rfl rfl (Nat.le_of_ble_eq_true rfl) (hR_of hX (by decide) (by decide)) (hf_of hX (by omega) (by omega)) ?_
  rintro _ _ _ _ ⟨rfl, rfl, rfl, rfl⟩
  refine j_istore h d_LP_init_35 (Nat.lt_of_lt_of_eq (m := 6) (by decide) hN.symm) ?_
  refine j_aload_n h d_LP_init_37 rfl ?_
  refine j_iconst (v := nI 2) h d_LP_init_38 (by decide +kernel) ?_
  refine z_anewa (a := 0) (col := 10) h d_LP_init_39 wcl_LP_20 wao_Srv rfl (by decide) (kf_lp kf).2.1.2.2 (by decide) rfl (kf_lp kf).2.1.1 (kf_lp kf).2.1.2.1 rfl (hP 10) (hf_of hX (by omega) (by omega)) ?_
  refine j_putFR h hin d_LP_init_42 fi_LP_22 rfl ⟨rfl, rfl⟩ (vz_o (kf_lp kf).1.1 (by omega)) ?_
  refine j_iconst (v := nI 0) h d_LP_init_45 (by decide +kernel) ?_
  refine j_istore h d_LP_init_46 (Nat.lt_of_lt_of_eq (m := 6) (by decide) hN.symm) ?_
  refine j_iload h d_LP_init_48 rfl ?_
  refine j_iconst (v := 2) h d_LP_init_50 (by decide) ?_
  refine j_ic_ge (tgt := 86) h d_LP_init_51 (by decide) (fun c1 => absurd c1 (by decide)) (fun c1 => ?_)
  refine j_aload_n h d_LP_init_54 rfl ?_
  refine j_getR h d_LP_init_55 fl_LP_22 rfl (vz_o (kf_lp kf).1.1 (by omega)) (up_s _ _ _ _) ?_
  refine j_iload (x := nI 0) h d_LP_init_58 rfl ?_
  refine z_new (ci := 1) (i := 0) (m := 13) h d_LP_init_60 rfl rfl wcl_LP_20 win_Srv wit_Srv (by have := (kf_lp kf).2.2.1; omega) (kf_srv kf (by decide)) (srv_df (fun col h1 => (up_c _ _ (by omega)).trans ((up_c _ _ (by omega)).trans (hA col (by omega) 0))) (fun col h1 h2 => hB col 0) ((up_c _ _ (by decide)).trans (hP 4 0))) (hf_of hX (by omega) (by omega)) ?_
  refine j_dup h d_LP_init_63 rfl ?_
  refine j_iload (x := nI 0) h d_LP_init_64 rfl ?_
  refine j_aload_n h d_LP_init_66 rfl ?_
  refine j_get0 h d_LP_init_67 fl_LP_13 rfl (vz_o (kf_lp kf).1.1 (by omega)) ?_
  refine j_int (v' := nI n) (by rw [up_c _ _ (by decide), up_s]) ?_
  refine j_iload h d_LP_init_70 rfl ?_
  refine j_aload_n h d_LP_init_72 rfl ?_
  refine j_get0 h d_LP_init_73 fl_LP_17 rfl (vz_o (kf_lp kf).1.1 (by omega)) ?_
  refine j_int (v' := ls_ (gr sk0 0) 1000) (by rw [up_s]) ?_
  refine j_V (congrArg (Vz K) (show _ = K.ad 1 0 + 1 by have := (kf_lp kf).2.2.1; omega)) ?_
  refine j_callI h (c_Srv_init _ _ n kf _ _ _ _ _ 0 (by decide) _ _ (fun col h1 h2 i h3 => (up_c _ _ (by omega)).trans ((up_c _ _ (by omega)).trans (hA col (by omega) i))) (fun j => (up_c _ _ (by decide)).trans (hP 12 j))) d_LP_init_76 ml_LP_26 mo_Srv_init rfl rfl rfl rfl (Nat.le_of_ble_eq_true rfl) (hR_of hX (by decide) (by decide)) (hf_of hX (by omega) (by omega)) ?_
  rintro _ _ _ _ ⟨rfl, rfl, rfl, rfl⟩
  refine j_aast (a := 0) (b := 9) (col := 10) (j := 0) (ci := 1) (i := 0) h d_LP_init_79 rfl rfl ⟨rfl, by decide⟩ (vz_a (kf_lp kf).2.1.2.1 (by have := (kf_lp kf).2.1.1; have := (kf_lp kf).2.2.1; omega)) (vz_o (kf_srv kf (by decide)) (by omega)) rfl (by rw [(kf_lp kf).2.1.2.2]; decide) (by rw [(kf_lp kf).2.1.2.2]; decide) ?_
  refine j_iinc (v := nI 1) h d_LP_init_80 rfl (by decide +kernel) (Nat.lt_of_lt_of_eq (m := 6) (by decide) hN.symm) ?_
  refine j_goto (tgt := 48) h d_LP_init_83 (by decide) ?_
  refine j_iload h d_LP_init_48 rfl ?_
  refine j_iconst (v := 2) h d_LP_init_50 (by decide) ?_
  refine j_ic_ge (tgt := 86) h d_LP_init_51 (by decide) (fun c2 => absurd c2 (by decide)) (fun c2 => ?_)
  refine j_aload_n h d_LP_init_54 rfl ?_
  refine j_getR h d_LP_init_55 fl_LP_22 rfl (vz_o (kf_lp kf).1.1 (by omega)) ((up_c _ _ (by decide)).trans ((srvP_c K _ 0 n (by decide) (Or.inl (by decide))).trans (up_s _ _ _ _))) ?_
  refine j_iload (x := nI 1) h d_LP_init_58 rfl ?_
  refine z_new (ci := 1) (i := 1) (m := 13) h d_LP_init_60 rfl rfl wcl_LP_20 win_Srv wit_Srv (by have := (kf_lp kf).2.2.1; omega) (kf_srv kf (by decide)) (srv_df (fun col h1 => (srvA_s _ 0 n (by omega) (by decide)).trans ((up_c _ _ (by omega)).trans ((up_c _ _ (by omega)).trans (hA col (by omega) 1)))) (fun col h1 h2 => (srvB_i _ 0 _ _ (Or.inl (by decide))).trans (hB col 1)) ((up_c _ _ (by decide)).trans ((srvP_c K _ 0 n (by decide) (Or.inr (by decide))).trans ((up_c _ _ (by decide)).trans (hP 4 1))))) (hf_of hX (by omega) (by omega)) ?_
  refine j_dup h d_LP_init_63 rfl ?_
  refine j_iload (x := nI 1) h d_LP_init_64 rfl ?_
  refine j_aload_n h d_LP_init_66 rfl ?_
  refine j_get0 h d_LP_init_67 fl_LP_13 rfl (vz_o (kf_lp kf).1.1 (by omega)) ?_
  refine j_int (v' := nI n) (by rw [srvA_c _ 0 n (by decide) (by decide) (by decide), up_c _ _ (by decide), up_s]) ?_
  refine j_iload h d_LP_init_70 rfl ?_
  refine j_aload_n h d_LP_init_72 rfl ?_
  refine j_get0 h d_LP_init_73 fl_LP_17 rfl (vz_o (kf_lp kf).1.1 (by omega)) ?_
  refine j_int (v' := ls_ (gr sk0 0) 1000) (by rw [srvA_c _ 0 n (by decide) (by decide) (by decide), up_s]) ?_
  refine j_V (congrArg (Vz K) (show _ = K.ad 1 1 + 1 by have := (kf_lp kf).2.2.1; omega)) ?_
  refine j_callI h (c_Srv_init _ _ n kf _ _ _ _ _ 1 (by decide) _ _ (fun col h1 h2 i h3 => (srvA_hi _ 0 n h1 (by omega)).trans ((up_c _ _ (by omega)).trans ((up_c _ _ (by omega)).trans (hA col (by omega) i)))) (fun j => (up_c _ _ (by decide)).trans ((srvP_c K _ 0 n (by decide) (Or.inl (by decide))).trans ((up_c _ _ (by decide)).trans (hP 13 j))))) d_LP_init_76 ml_LP_26 mo_Srv_init rfl rfl rfl rfl (Nat.le_of_ble_eq_true rfl) (hR_of hX (by decide) (by decide)) (hf_of hX (by omega) (by omega)) ?_
  rintro _ _ _ _ ⟨rfl, rfl, rfl, rfl⟩
  refine j_aast (a := 0) (b := 9) (col := 10) (j := 1) (ci := 1) (i := 1) h d_LP_init_79 rfl rfl ⟨rfl, by decide⟩ (vz_a (kf_lp kf).2.1.2.1 (by have := (kf_lp kf).2.1.1; have := (kf_lp kf).2.2.1; omega)) (vz_o (kf_srv kf (by decide)) (by omega)) rfl (by rw [(kf_lp kf).2.1.2.2]; decide) (by rw [(kf_lp kf).2.1.2.2]; decide) ?_
  refine j_iinc (v := nI 2) h d_LP_init_80 rfl (by decide +kernel) (Nat.lt_of_lt_of_eq (m := 6) (by decide) hN.symm) ?_
  refine j_goto (tgt := 48) h d_LP_init_83 (by decide) ?_
  refine j_iload h d_LP_init_48 rfl ?_
  refine j_iconst (v := 2) h d_LP_init_50 (by decide) ?_
  refine j_ic_ge (tgt := 86) h d_LP_init_51 (by decide) (fun c3 => ?_) (fun c3 => absurd c3 (by decide))
  refine j_aload_n h d_LP_init_86 rfl ?_
  refine j_bipush (v := nI 16) h d_LP_init_87 (by decide +kernel) ?_
  refine z_anewa (a := 1) (col := 11) h d_LP_init_89 wcl_LP_29 wao_Cli rfl (by decide) (kf_lp kf).2.2.2.1.2.2 (by decide) rfl (by have := (kf_lp kf).2.2.1; have := (kf_lp kf).2.2.2.1.1; omega) (kf_lp kf).2.2.2.1.2.1 rfl (fun j => (up_c _ _ (by decide)).trans ((srvP_c K _ 1 n (by decide) (Or.inl (by decide))).trans ((up_c _ _ (by decide)).trans ((srvP_c K _ 0 n (by decide) (Or.inl (by decide))).trans ((up_c _ _ (by decide)).trans (hP 11 j)))))) (hf_of hX (by omega) (by omega)) ?_
  refine j_putFR h hin d_LP_init_92 fi_LP_31 rfl ⟨rfl, rfl⟩ (vz_o (kf_lp kf).1.1 (by have := (kf_lp kf).1.2; have := (kf_lp kf).2.2.1; have := (kf_lp kf).2.2.2.2; omega)) ?_
  refine j_iconst (v := nI 0) h d_LP_init_95 (by decide +kernel) ?_
  refine j_istore h d_LP_init_96 (Nat.lt_of_lt_of_eq (m := 6) (by decide) hN.symm) ?_
  refine j_lv (lv' := [(0, .ref (K.ad 0 0)), (5, .int (nI 0))]) (lvs rfl (lvs rfl lvs0)) ?_
  refine j_widen (k := 2 * n + 6 + 0) (n := 28 * n + 44 + 5 * 0) (by omega) (by omega) ?_
  refine j_V (congrArg (Vz K) (show _ = K.base + 7 + 2 * n + 0 by have := (kf_lp kf).2.2.1; have := (kf_lp kf).2.2.2.1.1; omega)) ?_
  exact hL 16 0 (by decide)
