/-! LeasePair: delivering a message -/
theorem cs_lv {K : Kx} {V : Vx} {P : MP} {n : Nat} (c : CS K V P n) : V.1 0 0 := c.1.2.1
theorem cs_p0 {K : Kx} {V : Vx} {P : MP} {n : Nat} (c : CS K V P n) : P 0 0 = some (K.aad 0) := c.2.2.1
theorem cs_p1 {K : Kx} {V : Vx} {P : MP} {n : Nat} (c : CS K V P n) : P 1 0 = some (K.aad 1) := c.2.2.2.1
theorem cs_p2 {K : Kx} {V : Vx} {P : MP} {n : Nat} (c : CS K V P n) : P 2 0 = some (K.ad 4 0) := c.2.2.2.2.1
theorem cs_p3 {K : Kx} {V : Vx} {P : MP} {n : Nat} (c : CS K V P n) : P 3 0 = some (K.ad 5 600) := c.2.2.2.2.2.1
theorem cs_sp {K : Kx} {V : Vx} {P : MP} {n : Nat} (c : CS K V P n) {s : Nat} (h : s < 2) : P 10 s = some (K.ad 1 s) := c.2.2.2.2.2.2.2.1 s h
theorem cs_cp {K : Kx} {V : Vx} {P : MP} {n : Nat} (c : CS K V P n) {s : Nat} (h : s < 16) : P 11 s = some (K.ad 3 s) := c.2.2.2.2.2.2.2.2.1 s h
section JL
variable {X : Jx} {cc : ByteArray} {own : String} {K : Kx} {V : Vx} {I : MI3} {P : MP} {cells slots pc : Nat} {lv : List (Nat × Value)} {st : List Value} {n : Nat}
theorem j_srvs (h : OkX X cc own K) (cs : CS K V P n) {s : Nat} (hs : s < 2) (d : decode cc pc = .ok (.aaload, 1)) (kk : J X K V I P cells slots (pc + 1) lv (.ref (K.ad 1 s) :: st)) : J X K V I P cells slots pc lv (.int (nI s) :: .ref (K.aad 0) :: st) :=
  j_aald (a := 0) (b := 9) (col := 10) (C := "LeasePair$Server") h d rfl ⟨rfl, by decide⟩ (cs_av cs (by omega)) rfl (by rw [cs.2.1.2.1]; exact hs) (by rw [cs.2.1.2.1]; decide) (cs_sp cs hs) kk
theorem j_clis (h : OkX X cc own K) (cs : CS K V P n) {s : Nat} (hs : s < 16) (d : decode cc pc = .ok (.aaload, 1)) (kk : J X K V I P cells slots (pc + 1) lv (.ref (K.ad 3 s) :: st)) : J X K V I P cells slots pc lv (.int (nI s) :: .ref (K.aad 1) :: st) :=
  j_aald (a := 1) (b := 9) (col := 11) (C := "LeasePair$Client") h d rfl ⟨rfl, by decide⟩ (cs_av cs (by omega)) rfl (by rw [cs.2.1.2.2.1]; exact hs) (by rw [cs.2.1.2.2.1]; decide) (cs_cp cs hs) kk
end JL
def hld (A : MI) (c : Nat) : Prop := ¬ A 30 c = -1 ∧ A 40 0 < A 31 c - A 44 0
def cntR (A : MI) (a : Int32) : Nat → Nat → Int32 → Int32
  | 0, _, g => g
  | k + 1, i, g => cntR A a k (i + 1) (if A 30 i = a ∧ ¬ A 30 i = -1 ∧ A 40 0 < A 31 i - A 44 0 then g + 1 else g)
def clk (A : MI) (s : Nat) : Int32 := A 40 0 + A 1 s
def anA (A : MI) (c : Nat) (x : Msg) : MI := if (x 5 = A 32 c ∧ ¬ A 33 c = 2) ∧ x 3 = 1 then up (up (up A 30 c (x 4)) 31 c (x 6)) 41 0 (gr (A 41 0) (cntR (up (up A 30 c (x 4)) 31 c (x 6)) (x 4) 16 0 0)) else A
def hrs (A : MI) (s : Nat) (ty : Int32) : Int32 := b01 ((ty = 0 ∧ (A 0 s = 2 ∨ A 0 s = 3)) ∨ (¬ ty = 0 ∧ ¬ A 0 s = 0))
/-- what delivering x answers and does -/
def dlR (A : MI) (x : Msg) : Int32 := if x 0 = 1 then b01 (x 5 = A 32 (x 1).toNatClampNeg ∧ ¬ A 33 (x 1).toNatClampNeg = 2) else hrs A (x 1).toNatClampNeg (x 0)
noncomputable def dlA (A : MI) (n : Nat) (ld : Int32) (x : Msg) : MI :=
  if x 0 = 1 then anA A (x 1).toNatClampNeg x
  else if hrs A (x 1).toNatClampNeg (x 0) = 0 then A
  else if x 0 = 0 then (if x 3 = 2 then hrRel A (32 * (x 1).toNatClampNeg + (x 4).toNatClampNeg) (x 1).toNatClampNeg (x 2) (x 5) else if x 3 = 1 then hrnA A (x 1).toNatClampNeg (x 4).toNatClampNeg ld (clk A (x 1).toNatClampNeg) x else hnwA A (x 1).toNatClampNeg n ld (clk A (x 1).toNatClampNeg) x)
  else if x 0 = 2 then hhA A (x 1).toNatClampNeg n (x 5)
  else if x 0 = 3 then hupA A (32 * (x 1).toNatClampNeg + (x 4).toNatClampNeg) (x 1).toNatClampNeg n (clk A (x 1).toNatClampNeg) x
  else hrAck A (32 * (x 1).toNatClampNeg + (x 4).toNatClampNeg) (x 1).toNatClampNeg (x 5) (x 6) (x 7) (x 8)
noncomputable def dlN (A : MI) (n : Nat) (ld : Int32) (x : Msg) (N : List Msg) : List Msg :=
  if x 0 = 1 then N
  else if hrs A (x 1).toNatClampNeg (x 0) = 0 then N
  else if x 0 = 0 then (if x 3 = 2 then N else if x 3 = 1 then hrnN A (x 1).toNatClampNeg (x 4).toNatClampNeg ld (clk A (x 1).toNatClampNeg) x N else hnwN A (x 1).toNatClampNeg n ld (clk A (x 1).toNatClampNeg) x N)
  else if x 0 = 2 then hhN A (x 1).toNatClampNeg n (x 5) N
  else if x 0 = 3 then hupN A (x 1).toNatClampNeg (x 4).toNatClampNeg n (clk A (x 1).toNatClampNeg) x N
  else N
/-- a message that somebody may have sent -/
def VMsg (n : Nat) (x : Msg) : Prop :=
  (x 0 = 0 ∧ ∃ s c, s < 2 ∧ c < 16 ∧ x 1 = nI s ∧ x 2 = nI c ∧ (x 3 = 0 ∨ ((x 3 = 1 ∨ x 3 = 2) ∧ ∃ a, a < n ∧ x 4 = nI a))) ∨
  (x 0 = 1 ∧ ∃ c, c < 16 ∧ x 1 = nI c ∧ (x 3 = 0 ∨ (x 3 = 1 ∧ ∃ a, a < n ∧ x 4 = nI a))) ∨
  (x 0 = 2 ∧ ∃ s, s < 2 ∧ x 1 = nI s) ∨
  ((x 0 = 3 ∨ x 0 = 4) ∧ ∃ s a, s < 2 ∧ a < n ∧ x 1 = nI s ∧ x 4 = nI a ∧ (x 11 = 0 ∨ x 11 = 1))
theorem d_LP_isWithin_0 : decode b_LP_isWithin 0 = .ok (.iload_n 0, 1) := by decide +kernel
theorem d_LP_isWithin_1 : decode b_LP_isWithin 1 = .ok (.iload_n 1, 1) := by decide +kernel
theorem d_LP_isWithin_2 : decode b_LP_isWithin 2 = .ok (.if_icmp .lt 12, 3) := by decide +kernel
theorem d_LP_isWithin_5 : decode b_LP_isWithin 5 = .ok (.iload_n 0, 1) := by decide +kernel
theorem d_LP_isWithin_6 : decode b_LP_isWithin 6 = .ok (.iload_n 2, 1) := by decide +kernel
theorem d_LP_isWithin_7 : decode b_LP_isWithin 7 = .ok (.if_icmp .gt 7, 3) := by decide +kernel
theorem d_LP_isWithin_10 : decode b_LP_isWithin 10 = .ok (.iconst 1, 1) := by decide +kernel
theorem d_LP_isWithin_11 : decode b_LP_isWithin 11 = .ok (.goto 4, 3) := by decide +kernel
theorem d_LP_isWithin_14 : decode b_LP_isWithin 14 = .ok (.iconst 0, 1) := by decide +kernel
theorem d_LP_isWithin_15 : decode b_LP_isWithin 15 = .ok (.ireturn, 1) := by decide +kernel
set_option maxRecDepth 100000 in
set_option maxHeartbeats 4000000 in
theorem c_LP_isWithin (l : Launch) (K : Kx) (V : Vx) (A B C D : MI) (P : MP) (x a b : Int32) : Ct l K md_LP_isWithin (0, 0) 0 0 [.int x, .int a, .int b] V (bk4 A B C D) P (EQ V (some (.int (b01 (¬ x < a ∧ ¬ b < x)))) (bk4 A B C D) P) := by
  refine ct_of [(0, .int x), (1, .int a), (2, .int b)] (by decide) (Nat.le_of_ble_eq_true rfl) (ca_i (ca_i (ca_i ca_n))) rfl ?_
  intro X hl hX
  have h : OkX X b_LP_isWithin R_LP K := hX.1
  have hN : X.nL = 3 := hX.2.1
  refine j_iload_n h d_LP_isWithin_0 rfl ?_
  refine j_iload_n h d_LP_isWithin_1 rfl ?_
  refine j_ic_lt (tgt := 14) h d_LP_isWithin_2 (by decide) (fun c1 => ?_) (fun c1 => ?_)
  · refine j_iconst (v := 0) h d_LP_isWithin_14 (by decide) ?_
    exact j_zret hX d_LP_isWithin_15 rfl (by first | exact Or.inl rfl | exact Or.inr rfl | exact b01_z _ | assumption) (Nat.le_refl _) (Nat.le_refl _) ⟨rfl, by clear hX h hl; first | rfl | (simp_all [b01]; done) | grind [b01], by clear hX h hl; first | rfl | (simp_all [b01, up_rd]; done) | grind [b01, up_rd, chgTo_rd, chg_rd, settle_rd, bnd_rd], rfl⟩
  · refine j_iload_n h d_LP_isWithin_5 rfl ?_
    refine j_iload_n h d_LP_isWithin_6 rfl ?_
    refine j_ic_gt (tgt := 14) h d_LP_isWithin_7 (by decide) (fun c2 => ?_) (fun c2 => ?_)
    · refine j_iconst (v := 0) h d_LP_isWithin_14 (by decide) ?_
      exact j_zret hX d_LP_isWithin_15 rfl (by first | exact Or.inl rfl | exact Or.inr rfl | exact b01_z _ | assumption) (Nat.le_refl _) (Nat.le_refl _) ⟨rfl, by clear hX h hl; first | rfl | (simp_all [b01]; done) | grind [b01], by clear hX h hl; first | rfl | (simp_all [b01, up_rd]; done) | grind [b01, up_rd, chgTo_rd, chg_rd, settle_rd, bnd_rd], rfl⟩
    · refine j_iconst (v := 1) h d_LP_isWithin_10 (by decide) ?_
      refine j_goto (tgt := 15) h d_LP_isWithin_11 (by decide) ?_
      exact j_zret hX d_LP_isWithin_15 rfl (by first | exact Or.inl rfl | exact Or.inr rfl | exact b01_z _ | assumption) (Nat.le_refl _) (Nat.le_refl _) ⟨rfl, by clear hX h hl; first | rfl | (simp_all [b01]; done) | grind [b01], by clear hX h hl; first | rfl | (simp_all [b01, up_rd]; done) | grind [b01, up_rd, chgTo_rd, chg_rd, settle_rd, bnd_rd], rfl⟩
theorem d_LP_within_0 : decode b_LP_within 0 = .ok (.iload_n 0, 1) := by decide +kernel
theorem d_LP_within_1 : decode b_LP_within 1 = .ok (.iload_n 1, 1) := by decide +kernel
theorem d_LP_within_2 : decode b_LP_within 2 = .ok (.invokestatic 191, 3) := by decide +kernel
theorem d_LP_within_5 : decode b_LP_within 5 = .ok (.iload_n 2, 1) := by decide +kernel
theorem d_LP_within_6 : decode b_LP_within 6 = .ok (.invokestatic 196, 3) := by decide +kernel
theorem d_LP_within_9 : decode b_LP_within 9 = .ok (.ireturn, 1) := by decide +kernel
set_option maxRecDepth 100000 in
set_option maxHeartbeats 4000000 in
theorem c_LP_within (l : Launch) (K : Kx) (V : Vx) (A B C D : MI) (P : MP) (x a b : Int32) : Ct l K md_LP_within (1, 20) 0 0 [.int x, .int a, .int b] V (bk4 A B C D) P (EQ V (some (.int (ls_ (gr x a) b))) (bk4 A B C D) P) := by
  refine ct_of [(0, .int x), (1, .int a), (2, .int b)] (by decide) (Nat.le_of_ble_eq_true rfl) (ca_i (ca_i (ca_i ca_n))) rfl ?_
  intro X hl hX
  have h : OkX X b_LP_within R_LP K := hX.1
  have hN : X.nL = 3 := hX.2.1
  refine j_iload_n h d_LP_within_0 rfl ?_
  refine j_iload_n h d_LP_within_1 rfl ?_
  refine j_mmax h d_LP_within_2 wm_LP_191 (hM_of hX (by decide) (Nat.le_of_ble_eq_true rfl)) (hf_of (mc' := 0) (ms' := 0) hX (by decide) (by decide)) ?_
  refine j_iload_n h d_LP_within_5 rfl ?_
  refine j_mmin h d_LP_within_6 wm_LP_196 (hM_of hX (by decide) (Nat.le_of_ble_eq_true rfl)) (hf_of (mc' := 0) (ms' := 0) hX (by decide) (by decide)) ?_
  exact j_iret hX d_LP_within_9 rfl (Nat.le_refl _) (Nat.le_refl _) ⟨rfl, rfl, rfl, rfl⟩
theorem d_LP_clockOf_0 : decode b_LP_clockOf 0 = .ok (.aload_n 0, 1) := by decide +kernel
theorem d_LP_clockOf_1 : decode b_LP_clockOf 1 = .ok (.getfield 56, 3) := by decide +kernel
theorem d_LP_clockOf_4 : decode b_LP_clockOf 4 = .ok (.aload_n 1, 1) := by decide +kernel
theorem d_LP_clockOf_5 : decode b_LP_clockOf 5 = .ok (.getfield 67, 3) := by decide +kernel
theorem d_LP_clockOf_8 : decode b_LP_clockOf 8 = .ok (.iadd, 1) := by decide +kernel
theorem d_LP_clockOf_9 : decode b_LP_clockOf 9 = .ok (.ireturn, 1) := by decide +kernel
set_option maxRecDepth 100000 in
set_option maxHeartbeats 4000000 in
theorem c_LP_clockOf (l : Launch) (K : Kx) (V : Vx) (A B C D : MI) (P : MP) (hv : V.1 0 0) (s : Nat) (hs : V.1 1 s) : Ct l K md_LP_clockOf (0, 0) 0 0 [.ref (K.ad 0 0), .ref (K.ad 1 s)] V (bk4 A B C D) P (EQ V (some (.int (clk A s))) (bk4 A B C D) P) := by
  refine ct_of [(0, .ref (K.ad 0 0)), (1, .ref (K.ad 1 s))] (by decide) (Nat.le_of_ble_eq_true rfl) (ca_r (ca_r ca_n)) rfl ?_
  intro X hl hX
  have h : OkX X b_LP_clockOf R_LP K := hX.1
  have hN : X.nL = 2 := hX.2.1
  refine j_aload_n h d_LP_clockOf_0 rfl ?_
  refine j_get0 h d_LP_clockOf_1 fl_LP_56 rfl (by assumption) ?_
  refine j_aload_n h d_LP_clockOf_4 rfl ?_
  refine j_get0 h d_LP_clockOf_5 fl_LP_67 rfl (by assumption) ?_
  refine j_iadd h d_LP_clockOf_8 ?_
  exact j_iret hX d_LP_clockOf_9 rfl (Nat.le_refl _) (Nat.le_refl _) ⟨rfl, rfl, rfl, rfl⟩
theorem d_LP_countHolders_0 : decode b_LP_countHolders 0 = .ok (.iconst 0, 1) := by decide +kernel
theorem d_LP_countHolders_1 : decode b_LP_countHolders 1 = .ok (.istore_n 2, 1) := by decide +kernel
theorem d_LP_countHolders_2 : decode b_LP_countHolders 2 = .ok (.iconst 0, 1) := by decide +kernel
theorem d_LP_countHolders_3 : decode b_LP_countHolders 3 = .ok (.istore_n 3, 1) := by decide +kernel
theorem d_LP_countHolders_4 : decode b_LP_countHolders 4 = .ok (.iload_n 3, 1) := by decide +kernel
theorem d_LP_countHolders_5 : decode b_LP_countHolders 5 = .ok (.bipush 16, 2) := by decide +kernel
theorem d_LP_countHolders_7 : decode b_LP_countHolders 7 = .ok (.if_icmp .ge 45, 3) := by decide +kernel
theorem d_LP_countHolders_10 : decode b_LP_countHolders 10 = .ok (.aload_n 0, 1) := by decide +kernel
theorem d_LP_countHolders_11 : decode b_LP_countHolders 11 = .ok (.getfield 31, 3) := by decide +kernel
theorem d_LP_countHolders_14 : decode b_LP_countHolders 14 = .ok (.iload_n 3, 1) := by decide +kernel
theorem d_LP_countHolders_15 : decode b_LP_countHolders 15 = .ok (.aaload, 1) := by decide +kernel
theorem d_LP_countHolders_16 : decode b_LP_countHolders 16 = .ok (.getfield 174, 3) := by decide +kernel
theorem d_LP_countHolders_19 : decode b_LP_countHolders 19 = .ok (.iload_n 1, 1) := by decide +kernel
theorem d_LP_countHolders_20 : decode b_LP_countHolders 20 = .ok (.if_icmp .ne 26, 3) := by decide +kernel
theorem d_LP_countHolders_23 : decode b_LP_countHolders 23 = .ok (.aload_n 0, 1) := by decide +kernel
theorem d_LP_countHolders_24 : decode b_LP_countHolders 24 = .ok (.getfield 31, 3) := by decide +kernel
theorem d_LP_countHolders_27 : decode b_LP_countHolders 27 = .ok (.iload_n 3, 1) := by decide +kernel
theorem d_LP_countHolders_28 : decode b_LP_countHolders 28 = .ok (.aaload, 1) := by decide +kernel
theorem d_LP_countHolders_29 : decode b_LP_countHolders 29 = .ok (.aload_n 0, 1) := by decide +kernel
theorem d_LP_countHolders_30 : decode b_LP_countHolders 30 = .ok (.getfield 56, 3) := by decide +kernel
theorem d_LP_countHolders_33 : decode b_LP_countHolders 33 = .ok (.aload_n 0, 1) := by decide +kernel
theorem d_LP_countHolders_34 : decode b_LP_countHolders 34 = .ok (.getfield 17, 3) := by decide +kernel
theorem d_LP_countHolders_37 : decode b_LP_countHolders 37 = .ok (.invokevirtual 170, 3) := by decide +kernel
theorem d_LP_countHolders_40 : decode b_LP_countHolders 40 = .ok (.ifCond .eq 6, 3) := by decide +kernel
theorem d_LP_countHolders_43 : decode b_LP_countHolders 43 = .ok (.iinc 2 1, 3) := by decide +kernel
theorem d_LP_countHolders_46 : decode b_LP_countHolders 46 = .ok (.iinc 3 1, 3) := by decide +kernel
theorem d_LP_countHolders_49 : decode b_LP_countHolders 49 = .ok (.goto (-45), 3) := by decide +kernel
theorem d_LP_countHolders_52 : decode b_LP_countHolders 52 = .ok (.iload_n 2, 1) := by decide +kernel
theorem d_LP_countHolders_53 : decode b_LP_countHolders 53 = .ok (.ireturn, 1) := by decide +kernel
set_option maxRecDepth 100000 in
set_option maxHeartbeats 4000000 in
theorem c_LP_countHolders (l : Launch) (K : Kx) (V : Vx) (A B C D : MI) (P : MP) (n : Nat) (cs : CS K V P n) (a : Int32) : Ct l K md_LP_countHolders (1, 22) 0 0 [.ref (K.ad 0 0), .int a] V (bk4 A B C D) P (EQ V (some (.int (cntR A a 16 0 0))) (bk4 A B C D) P) := by
  refine ct_of [(0, .ref (K.ad 0 0)), (1, .int a)] (by decide) (Nat.le_of_ble_eq_true rfl) (ca_r (ca_i ca_n)) rfl ?_
  intro X hl hX
  have h : OkX X b_LP_countHolders R_LP K := hX.1
  have hN : X.nL = 4 := hX.2.1
  have hlv := cs_lv cs
  have hL : ∀ (k i : Nat) (g : Int32), i + k = 16 → cntR A a 16 0 0 = cntR A a k i g → J X K V (bk4 A B C D) P 0 0 4 [(0, .ref (K.ad 0 0)), (1, .int a), (2, .int g), (3, .int (nI i))] [] := by
    intro k
    induction k with
    | zero =>
      intro i g hi hv
      have hi2 : i = 16 := by omega
      subst hi2
      refine j_iload_n h d_LP_countHolders_4 rfl ?_
      refine j_bipush (v := 16) h d_LP_countHolders_5 (by decide) ?_
      refine j_ic_ge (tgt := 52) h d_LP_countHolders_7 (by decide) (fun _ => ?_) (fun c => absurd (nI_le (Nat.le_refl _) (by decide)) c)
      refine j_iload_n h d_LP_countHolders_52 rfl ?_
      exact j_iret hX d_LP_countHolders_53 rfl (Nat.le_refl _) (Nat.le_refl _) ⟨rfl, by rw [hv]; rfl, rfl, rfl⟩
    | succ k ih =>
      intro i g hi hv
      have hi2 : i < 16 := by omega
      have hcv := cs_cv cs hi2
      refine j_iload_n h d_LP_countHolders_4 rfl ?_
      refine j_bipush (v := 16) h d_LP_countHolders_5 (by decide) ?_
      refine j_ic_ge (tgt := 52) h d_LP_countHolders_7 (by decide) (fun c => absurd c (nI_ge hi2 (by decide))) (fun _ => ?_)
      refine j_aload_n h d_LP_countHolders_10 rfl ?_
      refine j_getR h d_LP_countHolders_11 fl_LP_31 rfl (by assumption) (cs_p1 cs) ?_
      refine j_iload_n h d_LP_countHolders_14 rfl ?_
      refine j_clis h cs hi2 d_LP_countHolders_15 ?_
      refine j_get0 h d_LP_countHolders_16 fl_LP_174 rfl (by assumption) ?_
      refine j_iload_n h d_LP_countHolders_19 rfl ?_
      refine j_ic_ne (tgt := 46) h d_LP_countHolders_20 (by decide) (fun c1 => ?_) (fun c1 => ?_)
      · refine j_iinc (v := nI (i + 1)) h d_LP_countHolders_46 rfl (nI_i i) (Nat.lt_of_lt_of_eq (m := 4) (by decide) hN.symm) ?_
        refine j_goto (tgt := 4) h d_LP_countHolders_49 (by decide) ?_
        refine j_lv (lv' := [(0, .ref (K.ad 0 0)), (1, .int a), (2, .int _), (3, .int (nI (i + 1)))]) (lvs rfl (lvs rfl (lvs rfl (lvs rfl lvs0)))) ?_
        exact ih (i + 1) _ (by omega) (hv.trans (by simp only [cntR]; clear ih hX h hl; congr 1; first | (simp_all [b01_0]; done) | grind [b01_0]))
      · refine j_aload_n h d_LP_countHolders_23 rfl ?_
        refine j_getR h d_LP_countHolders_24 fl_LP_31 rfl (by assumption) (cs_p1 cs) ?_
        refine j_iload_n h d_LP_countHolders_27 rfl ?_
        refine j_clis h cs hi2 d_LP_countHolders_28 ?_
        refine j_aload_n h d_LP_countHolders_29 rfl ?_
        refine j_get0 h d_LP_countHolders_30 fl_LP_56 rfl (by assumption) ?_
        refine j_aload_n h d_LP_countHolders_33 rfl ?_
        refine j_get0 h d_LP_countHolders_34 fl_LP_17 rfl (by assumption) ?_
        refine j_callV h (c_Cli_holds _ _ _ _ _ _ _ _ _ hcv _ _) d_LP_countHolders_37 ml_LP_170 mv_Cli_holds (by assumption) ⟨rfl, rfl⟩ rfl rfl (Nat.le_of_ble_eq_true rfl) (hR_of hX (by decide) (by decide)) (hf_of hX (by decide) (by decide)) ?_
        rintro _ _ _ _ ⟨rfl, rfl, rfl, rfl⟩
        refine j_if_eq (tgt := 46) h d_LP_countHolders_40 (by decide) (fun c2 => ?_) (fun c2 => ?_)
        · refine j_iinc (v := nI (i + 1)) h d_LP_countHolders_46 rfl (nI_i i) (Nat.lt_of_lt_of_eq (m := 4) (by decide) hN.symm) ?_
          refine j_goto (tgt := 4) h d_LP_countHolders_49 (by decide) ?_
          refine j_lv (lv' := [(0, .ref (K.ad 0 0)), (1, .int a), (2, .int _), (3, .int (nI (i + 1)))]) (lvs rfl (lvs rfl (lvs rfl (lvs rfl lvs0)))) ?_
          exact ih (i + 1) _ (by omega) (hv.trans (by simp only [cntR]; clear ih hX h hl; congr 1; first | (simp_all [b01_0]; done) | grind [b01_0]))
        · refine j_iinc (v := g + 1) h d_LP_countHolders_43 rfl rfl (Nat.lt_of_lt_of_eq (m := 4) (by decide) hN.symm) ?_
          refine j_iinc (v := nI (i + 1)) h d_LP_countHolders_46 rfl (nI_i i) (Nat.lt_of_lt_of_eq (m := 4) (by decide) hN.symm) ?_
          refine j_goto (tgt := 4) h d_LP_countHolders_49 (by decide) ?_
          refine j_lv (lv' := [(0, .ref (K.ad 0 0)), (1, .int a), (2, .int _), (3, .int (nI (i + 1)))]) (lvs rfl (lvs rfl (lvs rfl (lvs rfl lvs0)))) ?_
          exact ih (i + 1) _ (by omega) (hv.trans (by simp only [cntR]; clear ih hX h hl; congr 1; first | (simp_all [b01_0]; done) | grind [b01_0]))
  refine j_iconst (v := 0) h d_LP_countHolders_0 (by decide) ?_
  refine j_istore_n h d_LP_countHolders_1 (Nat.lt_of_lt_of_eq (m := 4) (by decide) hN.symm) ?_
  refine j_iconst (v := 0) h d_LP_countHolders_2 (by decide) ?_
  refine j_istore_n h d_LP_countHolders_3 (Nat.lt_of_lt_of_eq (m := 4) (by decide) hN.symm) ?_
  refine j_lv (lv' := [(0, .ref (K.ad 0 0)), (1, .int a), (2, .int 0), (3, .int (nI 0))]) (lvs rfl (lvs rfl (lvs rfl (lvs rfl lvs0)))) ?_
  exact hL 16 0 0 (by omega) rfl
