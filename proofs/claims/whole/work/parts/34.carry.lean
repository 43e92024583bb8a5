/-! LeasePair: carrying -/
theorem offR_600 {K : Kx} {P : MP} {B : MI} {ld sk : Int32} {N T : List Msg} {U : Msg} (inj : ∀ q q', q < 601 → q' < 601 → K.ad 5 q = K.ad 5 q' → q = q') (hnc : NC K P B ld sk N T U) : offR K P 600 := by
  obtain ⟨-, t0, g, f, ft, ⟨ht, hf, hc, b70, b72, p5, p6, hg, hgi⟩, -⟩ := hnc
  intro t j ht1 hp hj he
  have h1 := (hg t j ht1 hj).1
  have h2 := (hg t j ht1 hj).2
  rw [h1] at he
  have := inj _ _ (by omega) (by decide) (Option.some.inj he)
  omega
theorem mCopy_rd (B : MI) (q q2 : Nat) {w : Nat} (h : w < 15) : mCopy B q q2 (80 + w) q = B (80 + w) q2 := by
  rcases (show w = 0 ∨ w = 1 ∨ w = 2 ∨ w = 3 ∨ w = 4 ∨ w = 5 ∨ w = 6 ∨ w = 7 ∨ w = 8 ∨ w = 9 ∨ w = 10 ∨ w = 11 ∨ w = 12 ∨ w = 13 ∨ w = 14 by omega) with rfl | rfl | rfl | rfl | rfl | rfl | rfl | rfl | rfl | rfl | rfl | rfl | rfl | rfl | rfl <;> simp [mCopy, up_rd]
theorem mCopy_o (B : MI) (q q2 : Nat) {col i : Nat} (h : i ≠ q ∨ col < 80 ∨ 95 ≤ col) : mCopy B q q2 col i = B col i := by
  unfold mCopy
  simp only [up]
  rcases h with h | h | h
  · simp [h]
  · rw [if_neg, if_neg, if_neg, if_neg, if_neg, if_neg, if_neg, if_neg, if_neg, if_neg, if_neg, if_neg, if_neg, if_neg, if_neg] <;> omega
  · rw [if_neg, if_neg, if_neg, if_neg, if_neg, if_neg, if_neg, if_neg, if_neg, if_neg, if_neg, if_neg, if_neg, if_neg, if_neg] <;> omega
theorem CM_of {B B2 : MI} {q q2 : Nat} {x : Msg} (h : CM B q2 x) (e : ∀ w, w < 15 → B2 (80 + w) q = B (80 + w) q2) : CM B2 q x :=
  ⟨fun w hw => (e w (by omega)).trans (h.1 w hw), fun h3 w hw => (e w (by omega)).trans (h.2.1 h3 w hw), fun h4 => ⟨(e 7 (by decide)).trans (h.2.2 h4).1, (e 14 (by decide)).trans (h.2.2 h4).2⟩⟩
theorem NC_hand {K : Kx} {P : MP} {B : MI} {ld sk : Int32} {N T : List Msg} {U x : Msg} {t f ft q2 : Nat} {g : Nat → Nat → Nat} (kb : KB B ld sk) (w : NCw K P B N T U t g f ft) (hx : CM B q2 x) (hq2 : q2 < 600) : NC K P (mCopy B 600 q2) ld sk N T x ∧ CM (mCopy B 600 q2) 600 x := by
  obtain ⟨⟨ht, hf, hc, b70, b72, p5, p6, hg, hgi⟩, hN, b71, hft, hT, hU, hz⟩ := w
  have hh : CM (mCopy B 600 q2) 600 x := CM_of hx (fun w hw => mCopy_rd B 600 q2 hw)
  have keep : ∀ q y, q < 600 → CM B q y → CM (mCopy B 600 q2) q y := fun q y hq h => CM_of h (fun w hw => mCopy_o B 600 q2 (Or.inl (by omega)))
  have lo : ∀ col i, col < 80 → mCopy B 600 q2 col i = B col i := fun col i h => mCopy_o B 600 q2 (Or.inr (Or.inl h))
  refine ⟨⟨fun s hs => ?_, t, g, f, ft, ⟨ht, hf, hc, (lo _ _ (by decide)).trans b70, (lo _ _ (by decide)).trans b72, p5, p6, hg, hgi⟩, ?_, (lo _ _ (by decide)).trans b71, hft, ?_, hh, ?_⟩, hh⟩
  · obtain ⟨k1, k2, k3, k4⟩ := kb s hs
    exact ⟨(lo _ _ (by decide)).trans k1, (lo _ _ (by decide)).trans k2, (lo _ _ (by decide)).trans k3, (lo _ _ (by decide)).trans k4⟩
  · intro k y hk
    exact keep _ _ (hg t _ ht (Nat.mod_lt _ (by decide))).2 (hN k y hk)
  · intro k y hk
    exact ⟨(hT k y hk).1, keep _ _ (hg (1 - t) _ (by omega) (Nat.mod_lt _ (by decide))).2 (hT k y hk).2⟩
  · intro q hq
    by_cases h6 : q = 600
    · subst h6
      rw [show (91 : Nat) = 80 + 11 from rfl, mCopy_rd B 600 q2 (by decide)]
      exact hz q2 (by omega)
    · rw [mCopy_o B 600 q2 (Or.inl h6)]
      exact hz q hq
theorem dlR_z (A : MI) (x : Msg) : dlR A x = 0 ∨ dlR A x = 1 := by unfold dlR hrs; split <;> exact b01_z _
theorem d_LP_carry_0 : decode b_LP_carry 0 = .ok (.aload_n 0, 1) := by decide +kernel
theorem d_LP_carry_1 : decode b_LP_carry 1 = .ok (.getfield 39, 3) := by decide +kernel
theorem d_LP_carry_4 : decode b_LP_carry 4 = .ok (.iload_n 1, 1) := by decide +kernel
theorem d_LP_carry_5 : decode b_LP_carry 5 = .ok (.invokevirtual 138, 3) := by decide +kernel
theorem d_LP_carry_8 : decode b_LP_carry 8 = .ok (.invokestatic 59, 3) := by decide +kernel
theorem d_LP_carry_11 : decode b_LP_carry 11 = .ok (.aload_n 0, 1) := by decide +kernel
theorem d_LP_carry_12 : decode b_LP_carry 12 = .ok (.getfield 46, 3) := by decide +kernel
theorem d_LP_carry_15 : decode b_LP_carry 15 = .ok (.aload_n 0, 1) := by decide +kernel
theorem d_LP_carry_16 : decode b_LP_carry 16 = .ok (.getfield 39, 3) := by decide +kernel
theorem d_LP_carry_19 : decode b_LP_carry 19 = .ok (.iload_n 1, 1) := by decide +kernel
theorem d_LP_carry_20 : decode b_LP_carry 20 = .ok (.invokevirtual 142, 3) := by decide +kernel
theorem d_LP_carry_23 : decode b_LP_carry 23 = .ok (.invokevirtual 146, 3) := by decide +kernel
theorem d_LP_carry_26 : decode b_LP_carry 26 = .ok (.aload_n 0, 1) := by decide +kernel
theorem d_LP_carry_27 : decode b_LP_carry 27 = .ok (.aload_n 0, 1) := by decide +kernel
theorem d_LP_carry_28 : decode b_LP_carry 28 = .ok (.getfield 46, 3) := by decide +kernel
theorem d_LP_carry_31 : decode b_LP_carry 31 = .ok (.invokevirtual 150, 3) := by decide +kernel
theorem d_LP_carry_34 : decode b_LP_carry 34 = .ok (.ireturn, 1) := by decide +kernel
set_option maxRecDepth 100000 in
set_option maxHeartbeats 4000000 in
theorem c_LP_carry (l : Launch) (hlt : l.stackTraces = false) (K : Kx) (V : Vx) (A B C D : MI) (P : MP) (hV : ∀ z, V.2.2 z) (n : Nat) (cs : CS K V P n) (ld sk : Int32) (N T : List Msg) (U : Msg) (hnc : NC K P B ld sk N T U) (inj : ∀ q q', q < 601 → q' < 601 → K.ad 5 q = K.ad 5 q' → q = q') (hz : ∀ i, A 14 i = 0 ∨ A 14 i = 1) (hvm : ∀ x, x ∈ N → VMsg n x) (z : Int32) : CtX l K md_LP_carry (9, 141) 1 6 [.ref (K.ad 0 0), .int z] V (bk4 A B C D) P (fun V' r I' P' => ∃ k x, N[k]? = some x ∧ z = nI k ∧ NP K V C D P ld sk (some (.int (dlR A x))) (dlA A n ld x) (dlN A n ld x N) T x V' r I' P') (¬ ∃ k, k < N.length ∧ z = nI k) := by
  refine ctx_of [(0, .ref (K.ad 0 0)), (1, .int z)] (by decide) (Nat.le_of_ble_eq_true rfl) (ca_r (ca_i ca_n)) rfl ?_
  intro X hl hXX
  have hX := hXX.1
  have h : OkX X b_LP_carry R_LP K := hX.1
  have hN : X.nL = 2 := hX.2.1
  have hlt9 : X.l.stackTraces = false := by rw [hl]; exact hlt
  have hlv := cs_lv cs
  have hnv := cs_nv cs
  obtain ⟨kb, t, g, f, ft, nw⟩ := id hnc
  obtain ⟨ht, hf, hc, b70, b72, p5, p6, hg, hgi⟩ := id nw.1
  have hhas := has_nat (x := z) hc
  have hqh := cs_mv cs (q := 600) (by decide)
  refine j_aload_n h d_LP_carry_0 rfl ?_
  refine j_getR h d_LP_carry_1 fl_LP_39 rfl (by assumption) (cs_p2 cs) ?_
  refine j_iload_n h d_LP_carry_4 rfl ?_
  refine j_callV h (c_Net_has _ _ _ _ _ _ _ _ _ cs _ b72 _) d_LP_carry_5 ml_LP_138 mv_Net_has (by assumption) ⟨rfl, rfl⟩ rfl rfl (Nat.le_of_ble_eq_true rfl) (hRx hXX (by decide) (by decide)) (hfx hXX (by decide) (by decide)) ?_
  rintro _ _ _ _ ⟨rfl, rfl, rfl, rfl⟩
  refine jx_callS h (c_LP_need _ hlt9 _ _ _ _ hV _) d_LP_carry_8 ml_LP_59 ms_LP_need rfl rfl (Nat.le_of_ble_eq_true rfl) (hRx hXX (by decide) (by decide)) (hfx hXX (by decide) (by decide)) (fun hx => jx_out hXX (fun e => b01_0.mp hx (hhas.mpr e)) (by decide) (by decide)) ?_
  rintro _ _ _ _ ⟨⟨rfl, rfl, rfl, rfl⟩, cn8⟩
  obtain ⟨k, hk, rfl⟩ := hhas.mp (b01_n0 cn8)
  have hq6 := (hg t ((f + k) % 300) ht (Nat.mod_lt _ (by decide))).2
  have hqv := cs_mv cs (Nat.lt_succ_of_lt hq6)
  obtain ⟨x, hx⟩ : ∃ x, N[k]? = some x := ⟨_, List.getElem?_eq_getElem hk⟩
  refine j_aload_n h d_LP_carry_11 rfl ?_
  refine j_getR h d_LP_carry_12 fl_LP_46 rfl (by assumption) (cs_p3 cs) ?_
  refine j_aload_n h d_LP_carry_15 rfl ?_
  refine j_getR h d_LP_carry_16 fl_LP_39 rfl (by assumption) (cs_p2 cs) ?_
  refine j_iload_n h d_LP_carry_19 rfl ?_
  refine j_callV h (c_Net_at _ _ _ _ _ _ _ _ _ cs _ _ _ _ nw.1 _ (by omega)) d_LP_carry_20 ml_LP_142 mv_Net_at (by assumption) ⟨rfl, rfl⟩ rfl rfl (Nat.le_of_ble_eq_true rfl) (hRx hXX (by decide) (by decide)) (hfx hXX (by decide) (by decide)) ?_
  rintro _ _ _ _ ⟨rfl, rfl, rfl, rfl⟩
  refine j_callV h (c_Msg_copy _ _ _ _ _ _ _ _ _ hqh _ hqv (nw.2.2.2.2.2.2 _ (Nat.lt_succ_of_lt hq6))) d_LP_carry_23 ml_LP_146 mv_Msg_copy (by assumption) ⟨rfl, rfl⟩ rfl rfl (Nat.le_of_ble_eq_true rfl) (hRx hXX (by decide) (by decide)) (hfx hXX (by decide) (by decide)) ?_
  rintro _ _ _ _ ⟨rfl, rfl, rfl, rfl⟩
  obtain ⟨hnh, hch⟩ := NC_hand kb nw (nw.2.1 k x hx) hq6
  refine j_aload_n h d_LP_carry_26 rfl ?_
  refine j_aload_n h d_LP_carry_27 rfl ?_
  refine j_getR h d_LP_carry_28 fl_LP_46 rfl (by assumption) (cs_p3 cs) ?_
  refine j_callV h (c_LP_deliver _ _ _ _ _ _ _ _ _ cs _ _ _ _ _ hnh _ hqh _ hch (offR_600 inj hnh) (hvm x (List.mem_of_getElem? hx)) hz) d_LP_carry_31 ml_LP_150 mv_LP_deliver (by assumption) ⟨rfl, rfl⟩ rfl rfl (Nat.le_of_ble_eq_true rfl) (hRx hXX (by decide) (by decide)) (hfx hXX (by decide) (by decide)) ?_
  rintro _ _ _ _ ⟨rfl, rfl, rfl, B2, rfl, hn2⟩
  exact jx_ret hXX (j_zret hX d_LP_carry_34 rfl (by first | exact Or.inl rfl | exact Or.inr rfl | exact b01_z _ | assumption | exact dlR_z _ _) (by decide) (by decide) ⟨k, x, hx, rfl, rfl, rfl, rfl, _, rfl, hn2⟩)
