/-! the model: what stands -/
def mlen (a : Nat) : Nat := if a < 18 then 2 else if a < 31 then 64 else if a < 35 then 16 else if a < 37 then 4200 else 14
def MSt (K : Kx) (V : Vx) (P : MP) : Prop := V.1 6 0 ∧ ∀ a, 10 ≤ a ∧ a < 39 → V.2.1 a ∧ P (a + 10) 0 = some (K.aad a) ∧ K.alen a = mlen a
theorem mP {K : Kx} {V : Vx} {P : MP} (ms : MSt K V P) {a : Nat} (h : 10 ≤ a ∧ a < 39) : P (a + 10) 0 = some (K.aad a) := (ms.2 a h).2.1
theorem bkC {A B C1 C2 D : MI} (e : ∀ col i, C1 col i = C2 col i) : bk4 A B C1 D = bk4 A B C2 D := by
  have : C1 = C2 := funext fun col => funext fun i => e col i
  rw [this]
theorem bkD {A B C D1 D2 : MI} (e : ∀ col i, D1 col i = D2 col i) : bk4 A B C D1 = bk4 A B C D2 := by
  have : D1 = D2 := funext fun col => funext fun i => e col i
  rw [this]
theorem mlen_lt (a : Nat) : mlen a < 2147483648 := by unfold mlen; repeat' split
                                                      all_goals decide
section JMM
variable {X : Jx} {cc : ByteArray} {own : String} {K : Kx} {V : Vx} {A B C D : MI} {P : MP} {cells slots pc : Nat} {lv : List (Nat × Value)} {st : List Value}

theorem m_iald2 (h : OkX X cc own K) (ms : MSt K V P) {a col j L : Nat} {x : Int32} (d : decode cc pc = .ok (.iaload, 1)) (ha : 10 ≤ a ∧ a < 39) (hi : ainf a = (0, 2, col)) (ht : atyT (aty a) = .int ∧ aty a < 7) (hL : mlen a = L) (hx : x = nI j) (hj : j < L) (kk : J X K V (bk4 A B C D) P cells slots (pc + 1) lv (.int (C col j) :: st)) : J X K V (bk4 A B C D) P cells slots pc lv (.int x :: .ref (K.aad a) :: st) :=
  j_iald2 h d hi ht (ms.2 a ha).1 hx (by rw [(ms.2 a ha).2.2, hL]; exact hj) (by rw [(ms.2 a ha).2.2]; exact mlen_lt a) kk
theorem m_iast2 (h : OkX X cc own K) (ms : MSt K V P) {a col j L : Nat} {x y : Int32} (d : decode cc pc = .ok (.iastore, 1)) (ha : 10 ≤ a ∧ a < 39) (hi : ainf a = (0, 2, col)) (ht : atyT (aty a) = .int ∧ aty a < 7) (hL : mlen a = L) (hx : x = nI j) (hj : j < L) (kk : J X K V (bk4 A B (up C col j y) D) P cells slots (pc + 1) lv st) : J X K V (bk4 A B C D) P cells slots pc lv (.int y :: .int x :: .ref (K.aad a) :: st) :=
  j_iast2 h d hi ht (ms.2 a ha).1 hx (by rw [(ms.2 a ha).2.2, hL]; exact hj) (by rw [(ms.2 a ha).2.2]; exact mlen_lt a) kk
theorem m_zald2 (h : OkX X cc own K) (ms : MSt K V P) {a col j L : Nat} {x : Int32} (d : decode cc pc = .ok (.baload, 1)) (ha : 10 ≤ a ∧ a < 39) (hi : ainf a = (0, 2, col)) (ht : atyT (aty a) = .boolean ∧ aty a < 7) (hL : mlen a = L) (hx : x = nI j) (hj : j < L) (kk : J X K V (bk4 A B C D) P cells slots (pc + 1) lv (.int (C col j) :: st)) : J X K V (bk4 A B C D) P cells slots pc lv (.int x :: .ref (K.aad a) :: st) :=
  j_zald2 h d hi ht (ms.2 a ha).1 hx (by rw [(ms.2 a ha).2.2, hL]; exact hj) (by rw [(ms.2 a ha).2.2]; exact mlen_lt a) kk
theorem m_zast2 (h : OkX X cc own K) (ms : MSt K V P) {a col j L : Nat} {x y : Int32} (d : decode cc pc = .ok (.bastore, 1)) (ha : 10 ≤ a ∧ a < 39) (hi : ainf a = (0, 2, col)) (ht : atyT (aty a) = .boolean ∧ aty a < 7) (hL : mlen a = L) (hx : x = nI j) (hj : j < L) (hz : y = 0 ∨ y = 1) (kk : J X K V (bk4 A B (up C col j y) D) P cells slots (pc + 1) lv st) : J X K V (bk4 A B C D) P cells slots pc lv (.int y :: .int x :: .ref (K.aad a) :: st) :=
  j_zast2 h d hi ht (ms.2 a ha).1 hx (by rw [(ms.2 a ha).2.2, hL]; exact hj) (by rw [(ms.2 a ha).2.2]; exact mlen_lt a) hz kk
theorem m_iald3 (h : OkX X cc own K) (ms : MSt K V P) {a col j L : Nat} {x : Int32} (d : decode cc pc = .ok (.iaload, 1)) (ha : 10 ≤ a ∧ a < 39) (hi : ainf a = (0, 3, col)) (ht : atyT (aty a) = .int ∧ aty a < 7) (hL : mlen a = L) (hx : x = nI j) (hj : j < L) (kk : J X K V (bk4 A B C D) P cells slots (pc + 1) lv (.int (D col j) :: st)) : J X K V (bk4 A B C D) P cells slots pc lv (.int x :: .ref (K.aad a) :: st) :=
  j_iald3 h d hi ht (ms.2 a ha).1 hx (by rw [(ms.2 a ha).2.2, hL]; exact hj) (by rw [(ms.2 a ha).2.2]; exact mlen_lt a) kk
theorem m_iast3 (h : OkX X cc own K) (ms : MSt K V P) {a col j L : Nat} {x y : Int32} (d : decode cc pc = .ok (.iastore, 1)) (ha : 10 ≤ a ∧ a < 39) (hi : ainf a = (0, 3, col)) (ht : atyT (aty a) = .int ∧ aty a < 7) (hL : mlen a = L) (hx : x = nI j) (hj : j < L) (kk : J X K V (bk4 A B C (up D col j y)) P cells slots (pc + 1) lv st) : J X K V (bk4 A B C D) P cells slots pc lv (.int y :: .int x :: .ref (K.aad a) :: st) :=
  j_iast3 h d hi ht (ms.2 a ha).1 hx (by rw [(ms.2 a ha).2.2, hL]; exact hj) (by rw [(ms.2 a ha).2.2]; exact mlen_lt a) kk
theorem m_iald3e (h : OkX X cc own K) (ms : MSt K V P) {a col j L : Nat} {x v : Int32} (d : decode cc pc = .ok (.iaload, 1)) (ha : 10 ≤ a ∧ a < 39) (hi : ainf a = (0, 3, col)) (ht : atyT (aty a) = .int ∧ aty a < 7) (hL : mlen a = L) (hx : x = nI j) (hj : j < L) (he : D col j = v) (kk : J X K V (bk4 A B C D) P cells slots (pc + 1) lv (.int v :: st)) : J X K V (bk4 A B C D) P cells slots pc lv (.int x :: .ref (K.aad a) :: st) :=
  m_iald3 h ms d ha hi ht hL hx hj (by rw [he]; exact kk)
theorem nI_mul (a b : Nat) : nI (a * b) = nI a * nI b := by
  apply Int32.toBitVec_inj.mp
  exact BitVec.ofNat_mul _ _
theorem j_ix32 (h : OkX X cc own K) {s a : Nat} (d : decode cc pc = .ok (.iadd, 1)) (k : J X K V (bk4 A B C D) P cells slots (pc + 1) lv (.int (nI (32 * s + a)) :: st)) : J X K V (bk4 A B C D) P cells slots pc lv (.int (nI a) :: .int (32 * nI s) :: st) :=
  j_iadd h d (by rw [← nI_add, nI_mul] at k; exact k)
theorem j_ix14 (h : OkX X cc own K) {s a : Nat} (d : decode cc pc = .ok (.iadd, 1)) (k : J X K V (bk4 A B C D) P cells slots (pc + 1) lv (.int (nI (14 * s + a)) :: st)) : J X K V (bk4 A B C D) P cells slots pc lv (.int (nI a) :: .int (14 * nI s) :: st) :=
  j_iadd h d (by rw [← nI_add, nI_mul] at k; exact k)
theorem j_1s (h : OkX X cc own K) {s : Nat} (hs : s < 2) (d : decode cc pc = .ok (.isub, 1)) (k : J X K V (bk4 A B C D) P cells slots (pc + 1) lv (.int (nI (1 - s)) :: st)) : J X K V (bk4 A B C D) P cells slots pc lv (.int (nI s) :: .int 1 :: st) :=
  j_isub h d (by
    rcases (show s = 0 ∨ s = 1 by omega) with rfl | rfl
    · exact k
    · exact k)
end JMM
theorem is_srv (z : Int32) : wn z 0 1 ↔ z = 0 ∨ z = 1 := by
  constructor
  · intro h
    obtain ⟨s, hs, rfl⟩ := wn_nat (b := 1) (by decide) h
    rcases (show s = 0 ∨ s = 1 by omega) with rfl | rfl
    · exact Or.inl rfl
    · exact Or.inr rfl
  · rintro (rfl | rfl) <;> exact ⟨by decide, by decide⟩
theorem wr_m (C : MI) (s : Nat) : wr C s = if C 6 s ≤ 0 then up C 7 s (C 7 s + 1) else if C 6 s - 1 = 0 then up (up (up C 7 s (C 7 s + 1)) 6 s (C 6 s - 1)) 0 s 0 else up (up C 7 s (C 7 s + 1)) 6 s (C 6 s - 1) := by
  unfold wr
  by_cases h1 : C 6 s = 1
  · rw [if_pos h1, if_neg (by rw [h1]; decide), if_pos (by rw [h1]; decide), h1]
    funext col i
    simp only [up_rd]
    grind
  · rw [if_neg h1]
    by_cases h2 : C 6 s ≤ 0
    · rw [if_pos h2, if_neg (fun z => by rw [Int32.le_iff_toInt_le] at h2; rw [Int32.lt_iff_toInt_lt] at z; rw [show (0 : Int32).toInt = 0 from rfl] at h2; rw [show (1 : Int32).toInt = 1 from rfl] at z; omega)]
    · have h3 : 1 < C 6 s := by
        rw [Int32.le_iff_toInt_le] at h2
        rw [Int32.lt_iff_toInt_lt]
        rw [show (0 : Int32).toInt = 0 from rfl] at h2
        rw [show (1 : Int32).toInt = 1 from rfl]
        have : (C 6 s).toInt ≠ 1 := fun e => h1 (Int32.toInt_inj.mp (e.trans rfl))
        omega
      rw [if_neg h2, if_pos h3, if_neg (fun z => h1 (by
        have e : C 6 s = C 6 s - 1 + 1 := (Int32.sub_add_cancel _ _).symm
        rw [z] at e
        exact e))]
/-- the model's fixed numbers -/
def MF (C : MI) (n : Nat) (ld sk : Int32) : Prop := n ≤ 32 ∧ C 42 0 = nI n ∧ C 43 0 = ld ∧ C 44 0 = sk
theorem d_Mod_thrown_0 : decode b_Mod_thrown 0 = .ok (.aload_n 0, 1) := by decide +kernel
theorem d_Mod_thrown_1 : decode b_Mod_thrown 1 = .ok (.getfield 108, 3) := by decide +kernel
theorem d_Mod_thrown_4 : decode b_Mod_thrown 4 = .ok (.ireturn, 1) := by decide +kernel
set_option maxRecDepth 100000 in
set_option maxHeartbeats 4000000 in
theorem c_Mod_thrown (l : Launch) (K : Kx) (V : Vx) (A B C D : MI) (P : MP) (ms : MSt K V P)  : Ct l K md_Mod_thrown (0, 0) 0 0 [.ref (K.ad 6 0)] V (bk4 A B C D) P (EQ V (some (.int (D 70 0))) (bk4 A B C D) P) := by
  refine ct_of [(0, .ref (K.ad 6 0))] (by decide) (Nat.le_of_ble_eq_true rfl) (ca_r ca_n) rfl ?_
  intro X hl hX
  have h : OkX X b_Mod_thrown R_Mod K := hX.1
  have hN : X.nL = 1 := hX.2.1
  have hmv := ms.1
  refine j_aload_n h d_Mod_thrown_0 rfl ?_
  refine j_get3 h d_Mod_thrown_1 fl_Mod_108 rfl (by assumption) ?_
  exact j_iret hX d_Mod_thrown_4 rfl (Nat.le_refl _) (Nat.le_refl _) ⟨rfl, rfl, rfl, rfl⟩
theorem d_Mod_greater_0 : decode b_Mod_greater 0 = .ok (.iload_n 0, 1) := by decide +kernel
theorem d_Mod_greater_1 : decode b_Mod_greater 1 = .ok (.iload_n 1, 1) := by decide +kernel
theorem d_Mod_greater_2 : decode b_Mod_greater 2 = .ok (.if_icmp .le 7, 3) := by decide +kernel
theorem d_Mod_greater_5 : decode b_Mod_greater 5 = .ok (.iload_n 0, 1) := by decide +kernel
theorem d_Mod_greater_6 : decode b_Mod_greater 6 = .ok (.goto 4, 3) := by decide +kernel
theorem d_Mod_greater_9 : decode b_Mod_greater 9 = .ok (.iload_n 1, 1) := by decide +kernel
theorem d_Mod_greater_10 : decode b_Mod_greater 10 = .ok (.ireturn, 1) := by decide +kernel
set_option maxRecDepth 100000 in
set_option maxHeartbeats 4000000 in
theorem c_Mod_greater (l : Launch) (K : Kx) (V : Vx) (A B C D : MI) (P : MP) (x y : Int32) : Ct l K md_Mod_greater (0, 0) 0 0 [.int x, .int y] V (bk4 A B C D) P (EQ V (some (.int (gr x y))) (bk4 A B C D) P) := by
  refine ct_of [(0, .int x), (1, .int y)] (by decide) (Nat.le_of_ble_eq_true rfl) (ca_i (ca_i ca_n)) rfl ?_
  intro X hl hX
  have h : OkX X b_Mod_greater R_Mod K := hX.1
  have hN : X.nL = 2 := hX.2.1
  refine j_iload_n h d_Mod_greater_0 rfl ?_
  refine j_iload_n h d_Mod_greater_1 rfl ?_
  refine j_ic_le (tgt := 9) h d_Mod_greater_2 (by decide) (fun c1 => ?_) (fun c1 => ?_)
  · refine j_iload_n h d_Mod_greater_9 rfl ?_
    exact j_iret hX d_Mod_greater_10 rfl (Nat.le_refl _) (Nat.le_refl _) ⟨rfl, by clear hX h hl; unfold gr; first | rfl | (simp_all; done) | grind, rfl, rfl⟩
  · refine j_iload_n h d_Mod_greater_5 rfl ?_
    refine j_goto (tgt := 10) h d_Mod_greater_6 (by decide) ?_
    exact j_iret hX d_Mod_greater_10 rfl (Nat.le_refl _) (Nat.le_refl _) ⟨rfl, by clear hX h hl; unfold gr; first | rfl | (simp_all; done) | grind, rfl, rfl⟩
theorem d_Mod_clock_0 : decode b_Mod_clock 0 = .ok (.aload_n 0, 1) := by decide +kernel
theorem d_Mod_clock_1 : decode b_Mod_clock 1 = .ok (.getfield 111, 3) := by decide +kernel
theorem d_Mod_clock_4 : decode b_Mod_clock 4 = .ok (.aload_n 0, 1) := by decide +kernel
theorem d_Mod_clock_5 : decode b_Mod_clock 5 = .ok (.getfield 13, 3) := by decide +kernel
theorem d_Mod_clock_8 : decode b_Mod_clock 8 = .ok (.iload_n 1, 1) := by decide +kernel
theorem d_Mod_clock_9 : decode b_Mod_clock 9 = .ok (.iaload, 1) := by decide +kernel
theorem d_Mod_clock_10 : decode b_Mod_clock 10 = .ok (.iadd, 1) := by decide +kernel
theorem d_Mod_clock_11 : decode b_Mod_clock 11 = .ok (.ireturn, 1) := by decide +kernel
set_option maxRecDepth 100000 in
set_option maxHeartbeats 4000000 in
theorem c_Mod_clock (l : Launch) (K : Kx) (V : Vx) (A B C D : MI) (P : MP) (ms : MSt K V P) (s : Nat) (hs : s < 2) : Ct l K md_Mod_clock (0, 0) 0 0 [.ref (K.ad 6 0), .int (nI s)] V (bk4 A B C D) P (EQ V (some (.int (clk C s))) (bk4 A B C D) P) := by
  refine ct_of [(0, .ref (K.ad 6 0)), (1, .int (nI s))] (by decide) (Nat.le_of_ble_eq_true rfl) (ca_r (ca_i ca_n)) rfl ?_
  intro X hl hX
  have h : OkX X b_Mod_clock R_Mod K := hX.1
  have hN : X.nL = 2 := hX.2.1
  have hmv := ms.1
  refine j_aload_n h d_Mod_clock_0 rfl ?_
  refine j_get2 h d_Mod_clock_1 fl_Mod_111 rfl (by assumption) ?_
  refine j_aload_n h d_Mod_clock_4 rfl ?_
  refine j_getR h d_Mod_clock_5 fl_Mod_13 rfl (by assumption) (mP ms (a := 11) (by decide)) ?_
  refine j_iload_n h d_Mod_clock_8 rfl ?_
  refine m_iald2 (a := 11) (L := 2) (j := s) h ms d_Mod_clock_9 (by decide) rfl (by decide) rfl rfl (by omega) ?_
  refine j_iadd h d_Mod_clock_10 ?_
  exact j_iret hX d_Mod_clock_11 rfl (Nat.le_refl _) (Nat.le_refl _) ⟨rfl, rfl, rfl, rfl⟩
theorem d_Mod_writes_0 : decode b_Mod_writes 0 = .ok (.aload_n 0, 1) := by decide +kernel
theorem d_Mod_writes_1 : decode b_Mod_writes 1 = .ok (.getfield 31, 3) := by decide +kernel
theorem d_Mod_writes_4 : decode b_Mod_writes 4 = .ok (.iload_n 1, 1) := by decide +kernel
theorem d_Mod_writes_5 : decode b_Mod_writes 5 = .ok (.dup2, 1) := by decide +kernel
theorem d_Mod_writes_6 : decode b_Mod_writes 6 = .ok (.iaload, 1) := by decide +kernel
theorem d_Mod_writes_7 : decode b_Mod_writes 7 = .ok (.iconst 1, 1) := by decide +kernel
theorem d_Mod_writes_8 : decode b_Mod_writes 8 = .ok (.iadd, 1) := by decide +kernel
theorem d_Mod_writes_9 : decode b_Mod_writes 9 = .ok (.iastore, 1) := by decide +kernel
theorem d_Mod_writes_10 : decode b_Mod_writes 10 = .ok (.aload_n 0, 1) := by decide +kernel
theorem d_Mod_writes_11 : decode b_Mod_writes 11 = .ok (.getfield 28, 3) := by decide +kernel
theorem d_Mod_writes_14 : decode b_Mod_writes 14 = .ok (.iload_n 1, 1) := by decide +kernel
theorem d_Mod_writes_15 : decode b_Mod_writes 15 = .ok (.iaload, 1) := by decide +kernel
theorem d_Mod_writes_16 : decode b_Mod_writes 16 = .ok (.ifCond .le 29, 3) := by decide +kernel
theorem d_Mod_writes_19 : decode b_Mod_writes 19 = .ok (.aload_n 0, 1) := by decide +kernel
theorem d_Mod_writes_20 : decode b_Mod_writes 20 = .ok (.getfield 28, 3) := by decide +kernel
theorem d_Mod_writes_23 : decode b_Mod_writes 23 = .ok (.iload_n 1, 1) := by decide +kernel
theorem d_Mod_writes_24 : decode b_Mod_writes 24 = .ok (.dup2, 1) := by decide +kernel
theorem d_Mod_writes_25 : decode b_Mod_writes 25 = .ok (.iaload, 1) := by decide +kernel
theorem d_Mod_writes_26 : decode b_Mod_writes 26 = .ok (.iconst 1, 1) := by decide +kernel
theorem d_Mod_writes_27 : decode b_Mod_writes 27 = .ok (.isub, 1) := by decide +kernel
theorem d_Mod_writes_28 : decode b_Mod_writes 28 = .ok (.iastore, 1) := by decide +kernel
theorem d_Mod_writes_29 : decode b_Mod_writes 29 = .ok (.aload_n 0, 1) := by decide +kernel
theorem d_Mod_writes_30 : decode b_Mod_writes 30 = .ok (.getfield 28, 3) := by decide +kernel
theorem d_Mod_writes_33 : decode b_Mod_writes 33 = .ok (.iload_n 1, 1) := by decide +kernel
theorem d_Mod_writes_34 : decode b_Mod_writes 34 = .ok (.iaload, 1) := by decide +kernel
theorem d_Mod_writes_35 : decode b_Mod_writes 35 = .ok (.ifCond .ne 10, 3) := by decide +kernel
theorem d_Mod_writes_38 : decode b_Mod_writes 38 = .ok (.aload_n 0, 1) := by decide +kernel
theorem d_Mod_writes_39 : decode b_Mod_writes 39 = .ok (.getfield 7, 3) := by decide +kernel
theorem d_Mod_writes_42 : decode b_Mod_writes 42 = .ok (.iload_n 1, 1) := by decide +kernel
theorem d_Mod_writes_43 : decode b_Mod_writes 43 = .ok (.iconst 0, 1) := by decide +kernel
theorem d_Mod_writes_44 : decode b_Mod_writes 44 = .ok (.iastore, 1) := by decide +kernel
theorem d_Mod_writes_45 : decode b_Mod_writes 45 = .ok (.aload_n 0, 1) := by decide +kernel
theorem d_Mod_writes_46 : decode b_Mod_writes 46 = .ok (.getfield 7, 3) := by decide +kernel
theorem d_Mod_writes_49 : decode b_Mod_writes 49 = .ok (.iload_n 1, 1) := by decide +kernel
theorem d_Mod_writes_50 : decode b_Mod_writes 50 = .ok (.iaload, 1) := by decide +kernel
theorem d_Mod_writes_51 : decode b_Mod_writes 51 = .ok (.ifCond .eq 7, 3) := by decide +kernel
theorem d_Mod_writes_54 : decode b_Mod_writes 54 = .ok (.iconst 1, 1) := by decide +kernel
theorem d_Mod_writes_55 : decode b_Mod_writes 55 = .ok (.goto 4, 3) := by decide +kernel
theorem d_Mod_writes_58 : decode b_Mod_writes 58 = .ok (.iconst 0, 1) := by decide +kernel
theorem d_Mod_writes_59 : decode b_Mod_writes 59 = .ok (.ireturn, 1) := by decide +kernel
set_option maxRecDepth 100000 in
set_option maxHeartbeats 4000000 in
theorem c_Mod_writes (l : Launch) (K : Kx) (V : Vx) (A B C D : MI) (P : MP) (ms : MSt K V P) (s : Nat) (hs : s < 2) : Ct l K md_Mod_writes (0, 0) 0 0 [.ref (K.ad 6 0), .int (nI s)] V (bk4 A B C D) P (EQ V (some (.int (b01 (¬ wr C s 0 s = 0)))) (bk4 A B (wr C s) D) P) := by
  refine ct_of [(0, .ref (K.ad 6 0)), (1, .int (nI s))] (by decide) (Nat.le_of_ble_eq_true rfl) (ca_r (ca_i ca_n)) rfl ?_
  intro X hl hX
  have h : OkX X b_Mod_writes R_Mod K := hX.1
  have hN : X.nL = 2 := hX.2.1
  have hmv := ms.1
  refine j_aload_n h d_Mod_writes_0 rfl ?_
  refine j_getR h d_Mod_writes_1 fl_Mod_31 rfl (by assumption) (mP ms (a := 17) (by decide)) ?_
  refine j_iload_n h d_Mod_writes_4 rfl ?_
  refine j_dup2 h d_Mod_writes_5 rfl rfl ?_
  refine m_iald2 (a := 17) (L := 2) (j := s) h ms d_Mod_writes_6 (by decide) rfl (by decide) rfl rfl (by omega) ?_
  refine j_iconst (v := 1) h d_Mod_writes_7 (by decide) ?_
  refine j_iadd h d_Mod_writes_8 ?_
  refine m_iast2 (a := 17) (L := 2) (j := s) h ms d_Mod_writes_9 (by decide) rfl (by decide) rfl rfl (by omega) ?_
  refine j_aload_n h d_Mod_writes_10 rfl ?_
  refine j_getR h d_Mod_writes_11 fl_Mod_28 rfl (by assumption) (mP ms (a := 16) (by decide)) ?_
  refine j_iload_n h d_Mod_writes_14 rfl ?_
  refine m_iald2 (a := 16) (L := 2) (j := s) h ms d_Mod_writes_15 (by decide) rfl (by decide) rfl rfl (by omega) ?_
  refine j_if_le (tgt := 45) h d_Mod_writes_16 (by decide) (fun c1 => ?_) (fun c1 => ?_)
  · refine j_aload_n h d_Mod_writes_45 rfl ?_
    refine j_getR h d_Mod_writes_46 fl_Mod_7 rfl (by assumption) (mP ms (a := 10) (by decide)) ?_
    refine j_iload_n h d_Mod_writes_49 rfl ?_
    refine m_iald2 (a := 10) (L := 2) (j := s) h ms d_Mod_writes_50 (by decide) rfl (by decide) rfl rfl (by omega) ?_
    refine j_if_eq (tgt := 58) h d_Mod_writes_51 (by decide) (fun c2 => ?_) (fun c2 => ?_)
    · refine j_iconst (v := 0) h d_Mod_writes_58 (by decide) ?_
      exact j_zret hX d_Mod_writes_59 rfl (by first | exact Or.inl rfl | exact Or.inr rfl | exact b01_z _ | assumption) (Nat.le_refl _) (Nat.le_refl _) ⟨rfl, by clear hX h hl; rw [wr_m]; first | (simp_all [up_rd, b01]; done) | grind [up_rd, b01], by clear hX h hl; rw [wr_m]; exact bkC (by intro cc ii; first | (simp_all [up_rd]; done) | grind [up_rd]), rfl⟩
    · refine j_iconst (v := 1) h d_Mod_writes_54 (by decide) ?_
      refine j_goto (tgt := 59) h d_Mod_writes_55 (by decide) ?_
      exact j_zret hX d_Mod_writes_59 rfl (by first | exact Or.inl rfl | exact Or.inr rfl | exact b01_z _ | assumption) (Nat.le_refl _) (Nat.le_refl _) ⟨rfl, by clear hX h hl; rw [wr_m]; first | (simp_all [up_rd, b01]; done) | grind [up_rd, b01], by clear hX h hl; rw [wr_m]; exact bkC (by intro cc ii; first | (simp_all [up_rd]; done) | grind [up_rd]), rfl⟩
  · refine j_aload_n h d_Mod_writes_19 rfl ?_
    refine j_getR h d_Mod_writes_20 fl_Mod_28 rfl (by assumption) (mP ms (a := 16) (by decide)) ?_
    refine j_iload_n h d_Mod_writes_23 rfl ?_
    refine j_dup2 h d_Mod_writes_24 rfl rfl ?_
    refine m_iald2 (a := 16) (L := 2) (j := s) h ms d_Mod_writes_25 (by decide) rfl (by decide) rfl rfl (by omega) ?_
    refine j_iconst (v := 1) h d_Mod_writes_26 (by decide) ?_
    refine j_isub h d_Mod_writes_27 ?_
    refine m_iast2 (a := 16) (L := 2) (j := s) h ms d_Mod_writes_28 (by decide) rfl (by decide) rfl rfl (by omega) ?_
    refine j_aload_n h d_Mod_writes_29 rfl ?_
    refine j_getR h d_Mod_writes_30 fl_Mod_28 rfl (by assumption) (mP ms (a := 16) (by decide)) ?_
    refine j_iload_n h d_Mod_writes_33 rfl ?_
    refine m_iald2 (a := 16) (L := 2) (j := s) h ms d_Mod_writes_34 (by decide) rfl (by decide) rfl rfl (by omega) ?_
    refine j_if_ne (tgt := 45) h d_Mod_writes_35 (by decide) (fun c3 => ?_) (fun c3 => ?_)
    · refine j_aload_n h d_Mod_writes_45 rfl ?_
      refine j_getR h d_Mod_writes_46 fl_Mod_7 rfl (by assumption) (mP ms (a := 10) (by decide)) ?_
      refine j_iload_n h d_Mod_writes_49 rfl ?_
      refine m_iald2 (a := 10) (L := 2) (j := s) h ms d_Mod_writes_50 (by decide) rfl (by decide) rfl rfl (by omega) ?_
      refine j_if_eq (tgt := 58) h d_Mod_writes_51 (by decide) (fun c4 => ?_) (fun c4 => ?_)
      · refine j_iconst (v := 0) h d_Mod_writes_58 (by decide) ?_
        exact j_zret hX d_Mod_writes_59 rfl (by first | exact Or.inl rfl | exact Or.inr rfl | exact b01_z _ | assumption) (Nat.le_refl _) (Nat.le_refl _) ⟨rfl, by clear hX h hl; rw [wr_m]; first | (simp_all [up_rd, b01]; done) | grind [up_rd, b01], by clear hX h hl; rw [wr_m]; exact bkC (by intro cc ii; first | (simp_all [up_rd]; done) | grind [up_rd]), rfl⟩
      · refine j_iconst (v := 1) h d_Mod_writes_54 (by decide) ?_
        refine j_goto (tgt := 59) h d_Mod_writes_55 (by decide) ?_
        exact j_zret hX d_Mod_writes_59 rfl (by first | exact Or.inl rfl | exact Or.inr rfl | exact b01_z _ | assumption) (Nat.le_refl _) (Nat.le_refl _) ⟨rfl, by clear hX h hl; rw [wr_m]; first | (simp_all [up_rd, b01]; done) | grind [up_rd, b01], by clear hX h hl; rw [wr_m]; exact bkC (by intro cc ii; first | (simp_all [up_rd]; done) | grind [up_rd]), rfl⟩
    · refine j_aload_n h d_Mod_writes_38 rfl ?_
      refine j_getR h d_Mod_writes_39 fl_Mod_7 rfl (by assumption) (mP ms (a := 10) (by decide)) ?_
      refine j_iload_n h d_Mod_writes_42 rfl ?_
      refine j_iconst (v := 0) h d_Mod_writes_43 (by decide) ?_
      refine m_iast2 (a := 10) (L := 2) (j := s) h ms d_Mod_writes_44 (by decide) rfl (by decide) rfl rfl (by omega) ?_
      refine j_aload_n h d_Mod_writes_45 rfl ?_
      refine j_getR h d_Mod_writes_46 fl_Mod_7 rfl (by assumption) (mP ms (a := 10) (by decide)) ?_
      refine j_iload_n h d_Mod_writes_49 rfl ?_
      refine m_iald2 (a := 10) (L := 2) (j := s) h ms d_Mod_writes_50 (by decide) rfl (by decide) rfl rfl (by omega) ?_
      refine j_if_eq (tgt := 58) h d_Mod_writes_51 (by decide) (fun c5 => ?_) (fun c5 => ?_)
      · refine j_iconst (v := 0) h d_Mod_writes_58 (by decide) ?_
        exact j_zret hX d_Mod_writes_59 rfl (by first | exact Or.inl rfl | exact Or.inr rfl | exact b01_z _ | assumption) (Nat.le_refl _) (Nat.le_refl _) ⟨rfl, by clear hX h hl; rw [wr_m]; first | (simp_all [up_rd, b01]; done) | grind [up_rd, b01], by clear hX h hl; rw [wr_m]; exact bkC (by intro cc ii; first | (simp_all [up_rd]; done) | grind [up_rd]), rfl⟩
      · refine j_iconst (v := 1) h d_Mod_writes_54 (by decide) ?_
        refine j_goto (tgt := 59) h d_Mod_writes_55 (by decide) ?_
        exact j_zret hX d_Mod_writes_59 rfl (by first | exact Or.inl rfl | exact Or.inr rfl | exact b01_z _ | assumption) (Nat.le_refl _) (Nat.le_refl _) ⟨rfl, by clear hX h hl; rw [wr_m]; first | (simp_all [up_rd, b01]; done) | grind [up_rd, b01], by clear hX h hl; rw [wr_m]; exact bkC (by intro cc ii; first | (simp_all [up_rd]; done) | grind [up_rd]), rfl⟩
theorem d_Mod_change_0 : decode b_Mod_change 0 = .ok (.aload_n 0, 1) := by decide +kernel
theorem d_Mod_change_1 : decode b_Mod_change 1 = .ok (.getfield 50, 3) := by decide +kernel
theorem d_Mod_change_4 : decode b_Mod_change 4 = .ok (.iload_n 1, 1) := by decide +kernel
theorem d_Mod_change_5 : decode b_Mod_change 5 = .ok (.dup2, 1) := by decide +kernel
theorem d_Mod_change_6 : decode b_Mod_change 6 = .ok (.iaload, 1) := by decide +kernel
theorem d_Mod_change_7 : decode b_Mod_change 7 = .ok (.iconst 1, 1) := by decide +kernel
theorem d_Mod_change_8 : decode b_Mod_change 8 = .ok (.iadd, 1) := by decide +kernel
theorem d_Mod_change_9 : decode b_Mod_change 9 = .ok (.iastore, 1) := by decide +kernel
theorem d_Mod_change_10 : decode b_Mod_change 10 = .ok (.aload_n 0, 1) := by decide +kernel
theorem d_Mod_change_11 : decode b_Mod_change 11 = .ok (.getfield 56, 3) := by decide +kernel
theorem d_Mod_change_14 : decode b_Mod_change 14 = .ok (.iload_n 1, 1) := by decide +kernel
theorem d_Mod_change_15 : decode b_Mod_change 15 = .ok (.iconst 1, 1) := by decide +kernel
theorem d_Mod_change_16 : decode b_Mod_change 16 = .ok (.bastore, 1) := by decide +kernel
theorem d_Mod_change_17 : decode b_Mod_change 17 = .ok (.return_, 1) := by decide +kernel
set_option maxRecDepth 100000 in
set_option maxHeartbeats 4000000 in
theorem c_Mod_change (l : Launch) (K : Kx) (V : Vx) (A B C D : MI) (P : MP) (ms : MSt K V P) (r : Nat) (hr : r < 64) : Ct l K md_Mod_change (0, 0) 0 0 [.ref (K.ad 6 0), .int (nI r)] V (bk4 A B C D) P (EQ V (none) (bk4 A B (chg C r) D) P) := by
  refine ct_of [(0, .ref (K.ad 6 0)), (1, .int (nI r))] (by decide) (Nat.le_of_ble_eq_true rfl) (ca_r (ca_i ca_n)) rfl ?_
  intro X hl hX
  have h : OkX X b_Mod_change R_Mod K := hX.1
  have hN : X.nL = 2 := hX.2.1
  have hmv := ms.1
  refine j_aload_n h d_Mod_change_0 rfl ?_
  refine j_getR h d_Mod_change_1 fl_Mod_50 rfl (by assumption) (mP ms (a := 23) (by decide)) ?_
  refine j_iload_n h d_Mod_change_4 rfl ?_
  refine j_dup2 h d_Mod_change_5 rfl rfl ?_
  refine m_iald2 (a := 23) (L := 64) (j := r) h ms d_Mod_change_6 (by decide) rfl (by decide) rfl rfl (by omega) ?_
  refine j_iconst (v := 1) h d_Mod_change_7 (by decide) ?_
  refine j_iadd h d_Mod_change_8 ?_
  refine m_iast2 (a := 23) (L := 64) (j := r) h ms d_Mod_change_9 (by decide) rfl (by decide) rfl rfl (by omega) ?_
  refine j_aload_n h d_Mod_change_10 rfl ?_
  refine j_getR h d_Mod_change_11 fl_Mod_56 rfl (by assumption) (mP ms (a := 25) (by decide)) ?_
  refine j_iload_n h d_Mod_change_14 rfl ?_
  refine j_iconst (v := 1) h d_Mod_change_15 (by decide) ?_
  refine m_zast2 (a := 25) (L := 64) (j := r) h ms d_Mod_change_16 (by decide) rfl (by decide) rfl rfl (by omega) (by first | exact Or.inl rfl | exact Or.inr rfl | exact b01_z _ | assumption) ?_
  exact j_vret hX d_Mod_change_17 rfl (Nat.le_refl _) (Nat.le_refl _) ⟨rfl, by clear hX h hl; first | rfl | (simp_all [chg, up_rd]; done) | grind [chg, up_rd], by clear hX h hl; first | rfl | exact bkC (by intro cc ii; first | (simp_all [chg, up_rd]; done) | grind [chg, up_rd]), rfl⟩
theorem d_Mod_bind_0 : decode b_Mod_bind 0 = .ok (.aload_n 0, 1) := by decide +kernel
theorem d_Mod_bind_1 : decode b_Mod_bind 1 = .ok (.getfield 34, 3) := by decide +kernel
theorem d_Mod_bind_4 : decode b_Mod_bind 4 = .ok (.iload_n 1, 1) := by decide +kernel
theorem d_Mod_bind_5 : decode b_Mod_bind 5 = .ok (.iconst 2, 1) := by decide +kernel
theorem d_Mod_bind_6 : decode b_Mod_bind 6 = .ok (.iastore, 1) := by decide +kernel
theorem d_Mod_bind_7 : decode b_Mod_bind 7 = .ok (.aload_n 0, 1) := by decide +kernel
theorem d_Mod_bind_8 : decode b_Mod_bind 8 = .ok (.getfield 37, 3) := by decide +kernel
theorem d_Mod_bind_11 : decode b_Mod_bind 11 = .ok (.iload_n 1, 1) := by decide +kernel
theorem d_Mod_bind_12 : decode b_Mod_bind 12 = .ok (.iload_n 2, 1) := by decide +kernel
theorem d_Mod_bind_13 : decode b_Mod_bind 13 = .ok (.iastore, 1) := by decide +kernel
theorem d_Mod_bind_14 : decode b_Mod_bind 14 = .ok (.aload_n 0, 1) := by decide +kernel
theorem d_Mod_bind_15 : decode b_Mod_bind 15 = .ok (.getfield 40, 3) := by decide +kernel
theorem d_Mod_bind_18 : decode b_Mod_bind 18 = .ok (.iload_n 1, 1) := by decide +kernel
theorem d_Mod_bind_19 : decode b_Mod_bind 19 = .ok (.iload_n 3, 1) := by decide +kernel
theorem d_Mod_bind_20 : decode b_Mod_bind 20 = .ok (.iastore, 1) := by decide +kernel
theorem d_Mod_bind_21 : decode b_Mod_bind 21 = .ok (.aload_n 0, 1) := by decide +kernel
theorem d_Mod_bind_22 : decode b_Mod_bind 22 = .ok (.getfield 43, 3) := by decide +kernel
theorem d_Mod_bind_25 : decode b_Mod_bind 25 = .ok (.iload_n 1, 1) := by decide +kernel
theorem d_Mod_bind_26 : decode b_Mod_bind 26 = .ok (.iload 4, 2) := by decide +kernel
theorem d_Mod_bind_28 : decode b_Mod_bind 28 = .ok (.iastore, 1) := by decide +kernel
theorem d_Mod_bind_29 : decode b_Mod_bind 29 = .ok (.aload_n 0, 1) := by decide +kernel
theorem d_Mod_bind_30 : decode b_Mod_bind 30 = .ok (.getfield 46, 3) := by decide +kernel
theorem d_Mod_bind_33 : decode b_Mod_bind 33 = .ok (.iload_n 1, 1) := by decide +kernel
theorem d_Mod_bind_34 : decode b_Mod_bind 34 = .ok (.iconst 0, 1) := by decide +kernel
theorem d_Mod_bind_35 : decode b_Mod_bind 35 = .ok (.bastore, 1) := by decide +kernel
theorem d_Mod_bind_36 : decode b_Mod_bind 36 = .ok (.aload_n 0, 1) := by decide +kernel
theorem d_Mod_bind_37 : decode b_Mod_bind 37 = .ok (.getfield 53, 3) := by decide +kernel
theorem d_Mod_bind_40 : decode b_Mod_bind 40 = .ok (.iload_n 1, 1) := by decide +kernel
theorem d_Mod_bind_41 : decode b_Mod_bind 41 = .ok (.aload_n 0, 1) := by decide +kernel
theorem d_Mod_bind_42 : decode b_Mod_bind 42 = .ok (.getfield 50, 3) := by decide +kernel
theorem d_Mod_bind_45 : decode b_Mod_bind 45 = .ok (.iload_n 1, 1) := by decide +kernel
theorem d_Mod_bind_46 : decode b_Mod_bind 46 = .ok (.iaload, 1) := by decide +kernel
theorem d_Mod_bind_47 : decode b_Mod_bind 47 = .ok (.iastore, 1) := by decide +kernel
theorem d_Mod_bind_48 : decode b_Mod_bind 48 = .ok (.aload_n 0, 1) := by decide +kernel
theorem d_Mod_bind_49 : decode b_Mod_bind 49 = .ok (.getfield 59, 3) := by decide +kernel
theorem d_Mod_bind_52 : decode b_Mod_bind 52 = .ok (.iload_n 1, 1) := by decide +kernel
theorem d_Mod_bind_53 : decode b_Mod_bind 53 = .ok (.iconst 0, 1) := by decide +kernel
theorem d_Mod_bind_54 : decode b_Mod_bind 54 = .ok (.iastore, 1) := by decide +kernel
theorem d_Mod_bind_55 : decode b_Mod_bind 55 = .ok (.return_, 1) := by decide +kernel
set_option maxRecDepth 100000 in
set_option maxHeartbeats 4000000 in
theorem c_Mod_bind (l : Launch) (K : Kx) (V : Vx) (A B C D : MI) (P : MP) (ms : MSt K V P) (r : Nat) (hr : r < 64) (c e q : Int32) : Ct l K md_Mod_bind (0, 0) 0 0 [.ref (K.ad 6 0), .int (nI r), .int c, .int e, .int q] V (bk4 A B C D) P (EQ V (none) (bk4 A B (bnd C r c e q (C 15 r)) D) P) := by
  refine ct_of [(0, .ref (K.ad 6 0)), (1, .int (nI r)), (2, .int c), (3, .int e), (4, .int q)] (by decide) (Nat.le_of_ble_eq_true rfl) (ca_r (ca_i (ca_i (ca_i (ca_i ca_n))))) rfl ?_
  intro X hl hX
  have h : OkX X b_Mod_bind R_Mod K := hX.1
  have hN : X.nL = 5 := hX.2.1
  have hmv := ms.1
  refine j_aload_n h d_Mod_bind_0 rfl ?_
  refine j_getR h d_Mod_bind_1 fl_Mod_34 rfl (by assumption) (mP ms (a := 18) (by decide)) ?_
  refine j_iload_n h d_Mod_bind_4 rfl ?_
  refine j_iconst (v := 2) h d_Mod_bind_5 (by decide) ?_
  refine m_iast2 (a := 18) (L := 64) (j := r) h ms d_Mod_bind_6 (by decide) rfl (by decide) rfl rfl (by omega) ?_
  refine j_aload_n h d_Mod_bind_7 rfl ?_
  refine j_getR h d_Mod_bind_8 fl_Mod_37 rfl (by assumption) (mP ms (a := 19) (by decide)) ?_
  refine j_iload_n h d_Mod_bind_11 rfl ?_
  refine j_iload_n h d_Mod_bind_12 rfl ?_
  refine m_iast2 (a := 19) (L := 64) (j := r) h ms d_Mod_bind_13 (by decide) rfl (by decide) rfl rfl (by omega) ?_
  refine j_aload_n h d_Mod_bind_14 rfl ?_
  refine j_getR h d_Mod_bind_15 fl_Mod_40 rfl (by assumption) (mP ms (a := 20) (by decide)) ?_
  refine j_iload_n h d_Mod_bind_18 rfl ?_
  refine j_iload_n h d_Mod_bind_19 rfl ?_
  refine m_iast2 (a := 20) (L := 64) (j := r) h ms d_Mod_bind_20 (by decide) rfl (by decide) rfl rfl (by omega) ?_
  refine j_aload_n h d_Mod_bind_21 rfl ?_
  refine j_getR h d_Mod_bind_22 fl_Mod_43 rfl (by assumption) (mP ms (a := 21) (by decide)) ?_
  refine j_iload_n h d_Mod_bind_25 rfl ?_
  refine j_iload h d_Mod_bind_26 rfl ?_
  refine m_iast2 (a := 21) (L := 64) (j := r) h ms d_Mod_bind_28 (by decide) rfl (by decide) rfl rfl (by omega) ?_
  refine j_aload_n h d_Mod_bind_29 rfl ?_
  refine j_getR h d_Mod_bind_30 fl_Mod_46 rfl (by assumption) (mP ms (a := 22) (by decide)) ?_
  refine j_iload_n h d_Mod_bind_33 rfl ?_
  refine j_iconst (v := 0) h d_Mod_bind_34 (by decide) ?_
  refine m_zast2 (a := 22) (L := 64) (j := r) h ms d_Mod_bind_35 (by decide) rfl (by decide) rfl rfl (by omega) (by first | exact Or.inl rfl | exact Or.inr rfl | exact b01_z _ | assumption) ?_
  refine j_aload_n h d_Mod_bind_36 rfl ?_
  refine j_getR h d_Mod_bind_37 fl_Mod_53 rfl (by assumption) (mP ms (a := 24) (by decide)) ?_
  refine j_iload_n h d_Mod_bind_40 rfl ?_
  refine j_aload_n h d_Mod_bind_41 rfl ?_
  refine j_getR h d_Mod_bind_42 fl_Mod_50 rfl (by assumption) (mP ms (a := 23) (by decide)) ?_
  refine j_iload_n h d_Mod_bind_45 rfl ?_
  refine m_iald2 (a := 23) (L := 64) (j := r) h ms d_Mod_bind_46 (by decide) rfl (by decide) rfl rfl (by omega) ?_
  refine m_iast2 (a := 24) (L := 64) (j := r) h ms d_Mod_bind_47 (by decide) rfl (by decide) rfl rfl (by omega) ?_
  refine j_aload_n h d_Mod_bind_48 rfl ?_
  refine j_getR h d_Mod_bind_49 fl_Mod_59 rfl (by assumption) (mP ms (a := 26) (by decide)) ?_
  refine j_iload_n h d_Mod_bind_52 rfl ?_
  refine j_iconst (v := 0) h d_Mod_bind_53 (by decide) ?_
  refine m_iast2 (a := 26) (L := 64) (j := r) h ms d_Mod_bind_54 (by decide) rfl (by decide) rfl rfl (by omega) ?_
  exact j_vret hX d_Mod_bind_55 rfl (Nat.le_refl _) (Nat.le_refl _) ⟨rfl, by clear hX h hl; first | rfl | (simp_all [bnd, up_rd]; done) | grind [bnd, up_rd], by clear hX h hl; first | rfl | exact bkC (by intro cc ii; first | (simp_all [bnd, up_rd]; done) | grind [bnd, up_rd]), rfl⟩
theorem d_Mod_turns_0 : decode b_Mod_turns 0 = .ok (.aload_n 0, 1) := by decide +kernel
theorem d_Mod_turns_1 : decode b_Mod_turns 1 = .ok (.getfield 34, 3) := by decide +kernel
theorem d_Mod_turns_4 : decode b_Mod_turns 4 = .ok (.iload_n 1, 1) := by decide +kernel
theorem d_Mod_turns_5 : decode b_Mod_turns 5 = .ok (.iload_n 2, 1) := by decide +kernel
theorem d_Mod_turns_6 : decode b_Mod_turns 6 = .ok (.iastore, 1) := by decide +kernel
theorem d_Mod_turns_7 : decode b_Mod_turns 7 = .ok (.aload_n 0, 1) := by decide +kernel
theorem d_Mod_turns_8 : decode b_Mod_turns 8 = .ok (.getfield 56, 3) := by decide +kernel
theorem d_Mod_turns_11 : decode b_Mod_turns 11 = .ok (.iload_n 1, 1) := by decide +kernel
theorem d_Mod_turns_12 : decode b_Mod_turns 12 = .ok (.iconst 0, 1) := by decide +kernel
theorem d_Mod_turns_13 : decode b_Mod_turns 13 = .ok (.bastore, 1) := by decide +kernel
theorem d_Mod_turns_14 : decode b_Mod_turns 14 = .ok (.return_, 1) := by decide +kernel
set_option maxRecDepth 100000 in
set_option maxHeartbeats 4000000 in
theorem c_Mod_turns (l : Launch) (K : Kx) (V : Vx) (A B C D : MI) (P : MP) (ms : MSt K V P) (r : Nat) (hr : r < 64) (k : Int32) : Ct l K md_Mod_turns (0, 0) 0 0 [.ref (K.ad 6 0), .int (nI r), .int k] V (bk4 A B C D) P (EQ V (none) (bk4 A B (settle C r k) D) P) := by
  refine ct_of [(0, .ref (K.ad 6 0)), (1, .int (nI r)), (2, .int k)] (by decide) (Nat.le_of_ble_eq_true rfl) (ca_r (ca_i (ca_i ca_n))) rfl ?_
  intro X hl hX
  have h : OkX X b_Mod_turns R_Mod K := hX.1
  have hN : X.nL = 3 := hX.2.1
  have hmv := ms.1
  refine j_aload_n h d_Mod_turns_0 rfl ?_
  refine j_getR h d_Mod_turns_1 fl_Mod_34 rfl (by assumption) (mP ms (a := 18) (by decide)) ?_
  refine j_iload_n h d_Mod_turns_4 rfl ?_
  refine j_iload_n h d_Mod_turns_5 rfl ?_
  refine m_iast2 (a := 18) (L := 64) (j := r) h ms d_Mod_turns_6 (by decide) rfl (by decide) rfl rfl (by omega) ?_
  refine j_aload_n h d_Mod_turns_7 rfl ?_
  refine j_getR h d_Mod_turns_8 fl_Mod_56 rfl (by assumption) (mP ms (a := 25) (by decide)) ?_
  refine j_iload_n h d_Mod_turns_11 rfl ?_
  refine j_iconst (v := 0) h d_Mod_turns_12 (by decide) ?_
  refine m_zast2 (a := 25) (L := 64) (j := r) h ms d_Mod_turns_13 (by decide) rfl (by decide) rfl rfl (by omega) (by first | exact Or.inl rfl | exact Or.inr rfl | exact b01_z _ | assumption) ?_
  exact j_vret hX d_Mod_turns_14 rfl (Nat.le_refl _) (Nat.le_refl _) ⟨rfl, by clear hX h hl; first | rfl | (simp_all [settle, up_rd]; done) | grind [settle, up_rd], by clear hX h hl; first | rfl | exact bkC (by intro cc ii; first | (simp_all [settle, up_rd]; done) | grind [settle, up_rd]), rfl⟩
theorem d_Mod_holds_0 : decode b_Mod_holds 0 = .ok (.aload_n 0, 1) := by decide +kernel
theorem d_Mod_holds_1 : decode b_Mod_holds 1 = .ok (.getfield 74, 3) := by decide +kernel
theorem d_Mod_holds_4 : decode b_Mod_holds 4 = .ok (.iload_n 1, 1) := by decide +kernel
theorem d_Mod_holds_5 : decode b_Mod_holds 5 = .ok (.iaload, 1) := by decide +kernel
theorem d_Mod_holds_6 : decode b_Mod_holds 6 = .ok (.ifCond .lt 25, 3) := by decide +kernel
theorem d_Mod_holds_9 : decode b_Mod_holds 9 = .ok (.aload_n 0, 1) := by decide +kernel
theorem d_Mod_holds_10 : decode b_Mod_holds 10 = .ok (.getfield 111, 3) := by decide +kernel
theorem d_Mod_holds_13 : decode b_Mod_holds 13 = .ok (.aload_n 0, 1) := by decide +kernel
theorem d_Mod_holds_14 : decode b_Mod_holds 14 = .ok (.getfield 77, 3) := by decide +kernel
theorem d_Mod_holds_17 : decode b_Mod_holds 17 = .ok (.iload_n 1, 1) := by decide +kernel
theorem d_Mod_holds_18 : decode b_Mod_holds 18 = .ok (.iaload, 1) := by decide +kernel
theorem d_Mod_holds_19 : decode b_Mod_holds 19 = .ok (.aload_n 0, 1) := by decide +kernel
theorem d_Mod_holds_20 : decode b_Mod_holds 20 = .ok (.getfield 105, 3) := by decide +kernel
theorem d_Mod_holds_23 : decode b_Mod_holds 23 = .ok (.isub, 1) := by decide +kernel
theorem d_Mod_holds_24 : decode b_Mod_holds 24 = .ok (.if_icmp .ge 7, 3) := by decide +kernel
theorem d_Mod_holds_27 : decode b_Mod_holds 27 = .ok (.iconst 1, 1) := by decide +kernel
theorem d_Mod_holds_28 : decode b_Mod_holds 28 = .ok (.goto 4, 3) := by decide +kernel
theorem d_Mod_holds_31 : decode b_Mod_holds 31 = .ok (.iconst 0, 1) := by decide +kernel
theorem d_Mod_holds_32 : decode b_Mod_holds 32 = .ok (.ireturn, 1) := by decide +kernel
set_option maxRecDepth 100000 in
set_option maxHeartbeats 4000000 in
theorem c_Mod_holds (l : Launch) (K : Kx) (V : Vx) (A B C D : MI) (P : MP) (ms : MSt K V P) (c : Nat) (hc : c < 16) : Ct l K md_Mod_holds (0, 0) 0 0 [.ref (K.ad 6 0), .int (nI c)] V (bk4 A B C D) P (EQ V (some (.int (b01 (¬ C 30 c < 0 ∧ C 40 0 < C 31 c - C 44 0)))) (bk4 A B C D) P) := by
  refine ct_of [(0, .ref (K.ad 6 0)), (1, .int (nI c))] (by decide) (Nat.le_of_ble_eq_true rfl) (ca_r (ca_i ca_n)) rfl ?_
  intro X hl hX
  have h : OkX X b_Mod_holds R_Mod K := hX.1
  have hN : X.nL = 2 := hX.2.1
  have hmv := ms.1
  refine j_aload_n h d_Mod_holds_0 rfl ?_
  refine j_getR h d_Mod_holds_1 fl_Mod_74 rfl (by assumption) (mP ms (a := 31) (by decide)) ?_
  refine j_iload_n h d_Mod_holds_4 rfl ?_
  refine m_iald2 (a := 31) (L := 16) (j := c) h ms d_Mod_holds_5 (by decide) rfl (by decide) rfl rfl (by omega) ?_
  refine j_if_lt (tgt := 31) h d_Mod_holds_6 (by decide) (fun c1 => ?_) (fun c1 => ?_)
  · refine j_iconst (v := 0) h d_Mod_holds_31 (by decide) ?_
    exact j_zret hX d_Mod_holds_32 rfl (by first | exact Or.inl rfl | exact Or.inr rfl | exact b01_z _ | assumption) (Nat.le_refl _) (Nat.le_refl _) ⟨rfl, by clear hX h hl; first | rfl | (simp_all [b01, up_rd]; done) | grind [b01, up_rd], by clear hX h hl; first | rfl | exact bkC (by intro cc ii; first | (simp_all [b01, up_rd]; done) | grind [b01, up_rd]), rfl⟩
  · refine j_aload_n h d_Mod_holds_9 rfl ?_
    refine j_get2 h d_Mod_holds_10 fl_Mod_111 rfl (by assumption) ?_
    refine j_aload_n h d_Mod_holds_13 rfl ?_
    refine j_getR h d_Mod_holds_14 fl_Mod_77 rfl (by assumption) (mP ms (a := 32) (by decide)) ?_
    refine j_iload_n h d_Mod_holds_17 rfl ?_
    refine m_iald2 (a := 32) (L := 16) (j := c) h ms d_Mod_holds_18 (by decide) rfl (by decide) rfl rfl (by omega) ?_
    refine j_aload_n h d_Mod_holds_19 rfl ?_
    refine j_get2 h d_Mod_holds_20 fl_Mod_105 rfl (by assumption) ?_
    refine j_isub h d_Mod_holds_23 ?_
    refine j_ic_ge (tgt := 31) h d_Mod_holds_24 (by decide) (fun c2 => ?_) (fun c2 => ?_)
    · refine j_iconst (v := 0) h d_Mod_holds_31 (by decide) ?_
      exact j_zret hX d_Mod_holds_32 rfl (by first | exact Or.inl rfl | exact Or.inr rfl | exact b01_z _ | assumption) (Nat.le_refl _) (Nat.le_refl _) ⟨rfl, by clear hX h hl; first | rfl | (simp_all [b01, up_rd]; done) | grind [b01, up_rd], by clear hX h hl; first | rfl | exact bkC (by intro cc ii; first | (simp_all [b01, up_rd]; done) | grind [b01, up_rd]), rfl⟩
    · refine j_iconst (v := 1) h d_Mod_holds_27 (by decide) ?_
      refine j_goto (tgt := 32) h d_Mod_holds_28 (by decide) ?_
      exact j_zret hX d_Mod_holds_32 rfl (by first | exact Or.inl rfl | exact Or.inr rfl | exact b01_z _ | assumption) (Nat.le_refl _) (Nat.le_refl _) ⟨rfl, by clear hX h hl; first | rfl | (simp_all [b01, up_rd]; done) | grind [b01, up_rd], by clear hX h hl; first | rfl | exact bkC (by intro cc ii; first | (simp_all [b01, up_rd]; done) | grind [b01, up_rd]), rfl⟩
theorem d_Mod_isServer_0 : decode b_Mod_isServer 0 = .ok (.iload_n 1, 1) := by decide +kernel
theorem d_Mod_isServer_1 : decode b_Mod_isServer 1 = .ok (.ifCond .eq 8, 3) := by decide +kernel
theorem d_Mod_isServer_4 : decode b_Mod_isServer 4 = .ok (.iload_n 1, 1) := by decide +kernel
theorem d_Mod_isServer_5 : decode b_Mod_isServer 5 = .ok (.iconst 1, 1) := by decide +kernel
theorem d_Mod_isServer_6 : decode b_Mod_isServer 6 = .ok (.if_icmp .ne 7, 3) := by decide +kernel
theorem d_Mod_isServer_9 : decode b_Mod_isServer 9 = .ok (.iconst 1, 1) := by decide +kernel
theorem d_Mod_isServer_10 : decode b_Mod_isServer 10 = .ok (.goto 4, 3) := by decide +kernel
theorem d_Mod_isServer_13 : decode b_Mod_isServer 13 = .ok (.iconst 0, 1) := by decide +kernel
theorem d_Mod_isServer_14 : decode b_Mod_isServer 14 = .ok (.ireturn, 1) := by decide +kernel
set_option maxRecDepth 100000 in
set_option maxHeartbeats 4000000 in
theorem c_Mod_isServer (l : Launch) (K : Kx) (V : Vx) (A B C D : MI) (P : MP) (ms : MSt K V P) (z : Int32) : Ct l K md_Mod_isServer (0, 0) 0 0 [.ref (K.ad 6 0), .int z] V (bk4 A B C D) P (EQ V (some (.int (b01 (z = 0 ∨ z = 1)))) (bk4 A B C D) P) := by
  refine ct_of [(0, .ref (K.ad 6 0)), (1, .int z)] (by decide) (Nat.le_of_ble_eq_true rfl) (ca_r (ca_i ca_n)) rfl ?_
  intro X hl hX
  have h : OkX X b_Mod_isServer R_Mod K := hX.1
  have hN : X.nL = 2 := hX.2.1
  have hmv := ms.1
  refine j_iload_n h d_Mod_isServer_0 rfl ?_
  refine j_if_eq (tgt := 9) h d_Mod_isServer_1 (by decide) (fun c1 => ?_) (fun c1 => ?_)
  · refine j_iconst (v := 1) h d_Mod_isServer_9 (by decide) ?_
    refine j_goto (tgt := 14) h d_Mod_isServer_10 (by decide) ?_
    exact j_zret hX d_Mod_isServer_14 rfl (by first | exact Or.inl rfl | exact Or.inr rfl | exact b01_z _ | assumption) (Nat.le_refl _) (Nat.le_refl _) ⟨rfl, by clear hX h hl; simp_all [b01], rfl, rfl⟩
  · refine j_iload_n h d_Mod_isServer_4 rfl ?_
    refine j_iconst (v := 1) h d_Mod_isServer_5 (by decide) ?_
    refine j_ic_ne (tgt := 13) h d_Mod_isServer_6 (by decide) (fun c2 => ?_) (fun c2 => ?_)
    · refine j_iconst (v := 0) h d_Mod_isServer_13 (by decide) ?_
      exact j_zret hX d_Mod_isServer_14 rfl (by first | exact Or.inl rfl | exact Or.inr rfl | exact b01_z _ | assumption) (Nat.le_refl _) (Nat.le_refl _) ⟨rfl, by clear hX h hl; simp_all [b01], rfl, rfl⟩
    · refine j_iconst (v := 1) h d_Mod_isServer_9 (by decide) ?_
      refine j_goto (tgt := 14) h d_Mod_isServer_10 (by decide) ?_
      exact j_zret hX d_Mod_isServer_14 rfl (by first | exact Or.inl rfl | exact Or.inr rfl | exact b01_z _ | assumption) (Nat.le_refl _) (Nat.le_refl _) ⟨rfl, by clear hX h hl; simp_all [b01], rfl, rfl⟩
theorem d_Mod_isRight_0 : decode b_Mod_isRight 0 = .ok (.aload_n 0, 1) := by decide +kernel
theorem d_Mod_isRight_1 : decode b_Mod_isRight 1 = .ok (.iload_n 1, 1) := by decide +kernel
theorem d_Mod_isRight_2 : decode b_Mod_isRight 2 = .ok (.ifCond .eq 7, 3) := by decide +kernel
theorem d_Mod_isRight_5 : decode b_Mod_isRight 5 = .ok (.iconst 0, 1) := by decide +kernel
theorem d_Mod_isRight_6 : decode b_Mod_isRight 6 = .ok (.goto 4, 3) := by decide +kernel
theorem d_Mod_isRight_9 : decode b_Mod_isRight 9 = .ok (.iconst 1, 1) := by decide +kernel
theorem d_Mod_isRight_10 : decode b_Mod_isRight 10 = .ok (.putfield 108, 3) := by decide +kernel
theorem d_Mod_isRight_13 : decode b_Mod_isRight 13 = .ok (.iload_n 1, 1) := by decide +kernel
theorem d_Mod_isRight_14 : decode b_Mod_isRight 14 = .ok (.ireturn, 1) := by decide +kernel
set_option maxRecDepth 100000 in
set_option maxHeartbeats 4000000 in
theorem c_Mod_isRight (l : Launch) (K : Kx) (V : Vx) (A B C D : MI) (P : MP) (ms : MSt K V P) (z : Int32) (hz : z = 0 ∨ z = 1) : Ct l K md_Mod_isRight (0, 0) 0 0 [.ref (K.ad 6 0), .int z] V (bk4 A B C D) P (EQ V (some (.int z)) (bk4 A B C (up D 70 0 (if z = 0 then 1 else 0))) P) := by
  refine ct_of [(0, .ref (K.ad 6 0)), (1, .int z)] (by decide) (Nat.le_of_ble_eq_true rfl) (ca_r (ca_i ca_n)) rfl ?_
  intro X hl hX
  have h : OkX X b_Mod_isRight R_Mod K := hX.1
  have hN : X.nL = 2 := hX.2.1
  have hmv := ms.1
  refine j_aload_n h d_Mod_isRight_0 rfl ?_
  refine j_iload_n h d_Mod_isRight_1 rfl ?_
  refine j_if_eq (tgt := 9) h d_Mod_isRight_2 (by decide) (fun c1 => ?_) (fun c1 => ?_)
  · refine j_iconst (v := 1) h d_Mod_isRight_9 (by decide) ?_
    refine j_put3 h d_Mod_isRight_10 fw_Mod_108 rfl rfl (by assumption) ?_
    refine j_iload_n h d_Mod_isRight_13 rfl ?_
    exact j_zret hX d_Mod_isRight_14 rfl (by first | exact Or.inl rfl | exact Or.inr rfl | exact b01_z _ | assumption) (Nat.le_refl _) (Nat.le_refl _) ⟨rfl, rfl, by clear hX h hl; simp_all, rfl⟩
  · refine j_iconst (v := 0) h d_Mod_isRight_5 (by decide) ?_
    refine j_goto (tgt := 10) h d_Mod_isRight_6 (by decide) ?_
    refine j_put3 h d_Mod_isRight_10 fw_Mod_108 rfl rfl (by assumption) ?_
    refine j_iload_n h d_Mod_isRight_13 rfl ?_
    exact j_zret hX d_Mod_isRight_14 rfl (by first | exact Or.inl rfl | exact Or.inr rfl | exact b01_z _ | assumption) (Nat.le_refl _) (Nat.le_refl _) ⟨rfl, rfl, by clear hX h hl; simp_all, rfl⟩
