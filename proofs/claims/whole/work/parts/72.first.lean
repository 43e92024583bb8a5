/-! the state before the first turn -/
def ST (K : Kx) (n : Nat) (ld sk : Int32) (A B D : MI) (P : MP) (N : List Msg) : Prop := CS K K.full P n ∧ (∃ T U, NC K P B ld sk N T U) ∧ MSt K K.full P ∧ MN D N ∧ Inv n ld sk A N
theorem MSt_pe {K : Kx} {V : Vx} {P P' : MP} (h : MSt K V P) (e : ∀ col, 20 ≤ col → col < 99 → P' col 0 = P col 0) : MSt K V P' := ⟨h.1, fun a ha => ⟨(h.2 a ha).1, (e (a + 10) (by omega) (by omega)).trans (h.2 a ha).2.1, (h.2 a ha).2.2⟩⟩
theorem CS_99 {K : Kx} {V : Vx} {P : MP} {n : Nat} {v : Option Nat} (h : CS K V P n) : CS K V (up P 99 0 v) n := by
  obtain ⟨h1, h2, p0, p1, p2, p3, p4, p5, p6, p7⟩ := h
  exact ⟨h1, h2, (up_c _ _ (by decide)).trans p0, (up_c _ _ (by decide)).trans p1, (up_c _ _ (by decide)).trans p2, (up_c _ _ (by decide)).trans p3, fun s hs => (up_c _ _ (by decide)).trans (p4 s hs), fun s hs => (up_c _ _ (by decide)).trans (p5 s hs), fun s hs => (up_c _ _ (by decide)).trans (p6 s hs), fun s a hs ha => (up_c _ _ (by omega)).trans (p7 s a hs ha)⟩
theorem NC_99 {K : Kx} {P : MP} {B : MI} {ld sk : Int32} {N T : List Msg} {U : Msg} {v : Option Nat} (h : NC K P B ld sk N T U) : NC K (up P 99 0 v) B ld sk N T U := by
  obtain ⟨h0, t, g, f, ft, ⟨a1, a2, a3, a4, a5, a6, a7, a8, a9⟩, h2⟩ := h
  exact ⟨h0, t, g, f, ft, ⟨a1, a2, a3, a4, a5, (up_c _ _ (by decide)).trans a6, (up_c _ _ (by decide)).trans a7, fun u j hu hj => ⟨(up_c _ _ (by omega)).trans (a8 u j hu hj).1, (a8 u j hu hj).2⟩, a9⟩, h2⟩
def A00 (ld : Int32) : MI := up (fun _ _ => 0) 43 0 ld
def Z00 : MI := fun _ _ => 0
def P00 : MP := fun _ _ => none
theorem lp_mod (n : Nat) (ld sk : Int32) : modC Z00 n ld sk = lpA (A00 ld) n sk := by
  unfold modC lpA A00
  rw [up_cm (c := 42) (c' := 43) _ (by decide)]
  rfl
theorem A1_c (n : Nat) (ld sk : Int32) {col i : Nat} (h : 12 ≤ col) (h2 : col ≠ 30) (h3 : col < 40 ∨ col = 40 ∨ col = 41) : lpA (A00 ld) n sk col i = 0 := by
  unfold lpA
  rw [cliA_c _ h2, srvA_c _ _ _ (by omega) (by omega) (by omega), srvA_c _ _ _ (by omega) (by omega) (by omega), up_c _ _ (by omega), up_c _ _ (by omega)]
  exact up_c _ _ (by omega)
theorem A1_42 (n : Nat) (ld sk : Int32) : lpA (A00 ld) n sk 42 0 = nI n ∧ lpA (A00 ld) n sk 43 0 = ld ∧ lpA (A00 ld) n sk 44 0 = sk := by
  refine ⟨?_, ?_, ?_⟩ <;> unfold lpA <;> rw [cliA_c _ (by decide), srvA_c _ _ _ (by decide) (by decide) (by decide), srvA_c _ _ _ (by decide) (by decide) (by decide)]
  · rw [up_c _ _ (by decide), up_s]
  · rw [up_c _ _ (by decide), up_c _ _ (by decide)]; exact up_s _ _ _ _
  · rw [up_s]
theorem K5_b (c : Prop) [Decidable c] : K5 (b01 c) := (b01_z c).elim Or.inl (fun h => Or.inr (Or.inl h))
theorem K1_recA {A0 A : MI} (h : K1 A0 A) (s : Nat) : ∀ j, K1 A0 (recA A s j)
  | 0 => h
  | j + 1 => K1_up (K1_up (K1_recA h s j) (Or.inr (K5_b _))) (Or.inl (by decide))
theorem K1_srvA {A0 A : MI} (h : K1 A0 A) (s n : Nat) : K1 A0 (srvA A s n) := K1_up (K1_up (K1_up (K1_up (K1_recA h s n) (Or.inl (by decide))) (Or.inl (by decide))) (Or.inl (by decide))) (Or.inl (by decide))
theorem K1_cliA {A0 A : MI} (h : K1 A0 A) : ∀ j, K1 A0 (cliA A j)
  | 0 => h
  | j + 1 => K1_up (K1_cliA h j) (Or.inl (by decide))
theorem inv_start {n : Nat} (hn : n ≤ 32) (ld sk : Int32) : Inv n ld sk (lpA (A00 ld) n sk) [] := by
  refine ⟨⟨hn, (A1_42 n ld sk).1, (A1_42 n ld sk).2.1, (A1_42 n ld sk).2.2⟩, ⟨fun i => ?_, ?_, fun c hc => ?_⟩, ⟨fun x hx => absurd hx List.not_mem_nil, fun x hx => absurd hx List.not_mem_nil⟩, ?_⟩
  · exact ⟨Or.inl (A1_c n ld sk (by decide) (by decide) (by decide)), Or.inl (A1_c n ld sk (by decide) (by decide) (by decide)), Or.inl (A1_c n ld sk (by decide) (by decide) (by decide)), Or.inl (A1_c n ld sk (by decide) (by decide) (by decide))⟩
  · have h0 : K10 (A00 ld) := fun i => Or.inl (up_c _ _ (by decide))
    exact K1_cliA (K1_srvA (K1_srvA (K1_up (K1_up (K1.refl _) (Or.inl (by decide))) (Or.inl (by decide))) 0 n) 1 n) 16 h0
  · have e : lpA (A00 ld) n sk 30 c = -1 := cliA_lt _ 16 hc
    rw [e]
    exact ⟨⟨fun _ => by decide, fun _ => rfl⟩, fun _ => A1_c n ld sk (by decide) (by decide) (by decide)⟩
  · rw [A1_c n ld sk (by decide) (by decide) (by decide)]
    exact ⟨by decide, by decide⟩
/-- columns of the references -/
def P11 (K : Kx) (n : Nat) : MP := modP K (lpP K P00 n) 29
theorem P11_99 (K : Kx) (n j : Nat) : P11 K n 99 j = none := by
  unfold P11 lpP netPP
  rw [modP_h K _ 29 (by decide), up_c _ _ (by decide), up_c _ _ (by decide), netP_c K _ (by decide) (by decide), up_c _ _ (by decide), up_c _ _ (by decide), cliP_c K _ (by decide), up_c _ _ (by decide), up_c _ _ (by decide), srvP_c K _ _ _ (by decide) (Or.inl (by decide)), up_c _ _ (by decide), srvP_c K _ _ _ (by decide) (Or.inl (by decide)), up_c _ _ (by decide)]
  rfl
theorem P11_lo (K : Kx) (n : Nat) {col i : Nat} (h : col < 20) : P11 K n col i = lpP K P00 n col i := modP_c K _ h 29
theorem P11_low (K : Kx) (n : Nat) {col i : Nat} (h : col < 14) (h2 : col ≠ 2) (h3 : col ≠ 3) (h5 : col ≠ 5) (h6 : col ≠ 6) (h11 : col ≠ 11) (h1 : col ≠ 1) : P11 K n col i = up (srvP K (up (srvP K (up P00 0 0 (some (K.aad 0))) 0 n) 10 0 (some (K.ad 1 0))) 1 n) 10 1 (some (K.ad 1 1)) col i := by
  rw [P11_lo K n (by omega)]
  unfold lpP netPP
  rw [up_c _ _ h3, up_c _ _ h2, netP_c K _ (by omega) (by omega), up_c _ _ h6, up_c _ _ h5, cliP_c K _ h11, up_c _ _ h1]
theorem cs_start {K : Kx} {n : Nat} (kf : KF K n) : CS K K.full (P11 K n) n := by
  have hn := kf.1
  refine ⟨⟨hn, (kf_lp kf).1.1, fun s hs => kf_srv kf hs, fun s a hs ha => (kf_rec kf hs ha).2, fun c hc => (kf_cli kf hc).2, (kf_net kf).1, fun q hq => (kf_msg kf hq).2⟩, ⟨fun a ha => ?_, (kf_lp kf).2.1.2.2, (kf_lp kf).2.2.2.1.2.2, (kf_arr (s := 0) kf (by decide)).2.2, (kf_arr (s := 1) kf (by decide)).2.2, (kf_net kf).2.1.2.2, (kf_net kf).2.2.2.2⟩, ?_, ?_, ?_, ?_, fun s hs => ?_, fun s hs => ?_, fun c hc => ?_, fun s a hs ha => ?_⟩
  · show K.pa a
    rw [kf.2.2.2.2.2]
    exact Or.inl ha
  · rw [P11_low K n (by decide) (by decide) (by decide) (by decide) (by decide) (by decide) (by decide), up_c _ _ (by decide), srvP_c K _ _ _ (by decide) (Or.inl (by decide)), up_c _ _ (by decide), srvP_c K _ _ _ (by decide) (Or.inl (by decide)), up_s]
  · rw [P11_lo K n (by decide)]
    unfold lpP netPP
    rw [up_c _ _ (by decide), up_c _ _ (by decide), netP_c K _ (by decide) (by decide), up_c _ _ (by decide), up_c _ _ (by decide), cliP_c K _ (by decide), up_s]
  · rw [P11_lo K n (by decide)]
    unfold lpP
    rw [up_c _ _ (by decide), up_s]
  · rw [P11_lo K n (by decide)]
    unfold lpP
    rw [up_s]
  · rw [P11_low K n (by decide) (by decide) (by decide) (by decide) (by decide) (by decide) (by decide), up_c _ _ (by decide)]
    rcases (show s = 0 ∨ s = 1 by omega) with rfl | rfl
    · rw [srvP_c K _ 1 _ (by decide) (Or.inr (by decide)), up_c _ _ (by decide)]
      unfold srvP
      rw [recP_c K _ _ (by decide), up_s]
    · unfold srvP
      rw [recP_c K _ _ (by decide), up_s]
  · rw [P11_low K n (by decide) (by decide) (by decide) (by decide) (by decide) (by decide) (by decide)]
    rcases (show s = 0 ∨ s = 1 by omega) with rfl | rfl
    · rw [up_i _ _ (by decide), srvP_c K _ _ _ (by decide) (Or.inl (by decide)), up_s]
    · rw [up_s]
  · rw [P11_lo K n (by decide)]
    unfold lpP netPP
    rw [up_c _ _ (by decide), up_c _ _ (by decide), netP_c K _ (by decide) (by decide), up_c _ _ (by decide), up_c _ _ (by decide)]
    exact cliP_lt K _ 16 hc
  · rw [P11_low K n (by omega) (by omega) (by omega) (by omega) (by omega) (by omega) (by omega), up_c _ _ (by omega)]
    rcases (show s = 0 ∨ s = 1 by omega) with rfl | rfl
    · rw [srvP_c K _ 1 _ (by decide) (Or.inl (by decide)), up_c _ _ (by decide)]
      exact recP_lt K _ 0 n ha
    · exact recP_lt K _ 1 n ha
theorem ms_start {K : Kx} {n : Nat} (kf : KF K n) : MSt K K.full (P11 K n) := by
  have h := ms_made (P := lpP K P00 n) kf (Nat.le_refl _)
  exact ⟨(kf_mod kf).1, fun a ha => ⟨(kf_ma kf ha).2.1, (h.2 a ha).2.1, (h.2 a ha).2.2⟩⟩
theorem nc_start {K : Kx} {n : Nat} (kf : KF K n) (ld sk : Int32) : NC K (P11 K n) (lpB Z00 ld sk) ld sk [] [] (fun _ => 0) := by
  have hB : ∀ col i, 70 ≤ col → lpB Z00 ld sk col i = 0 := fun col i h => (srvB_i _ 1 _ _ (Or.inr h)).trans (srvB_i _ 0 _ _ (Or.inr h))
  have h5 : P11 K n 5 0 = some (K.aad 4) := by
    rw [P11_lo K n (by decide)]
    unfold lpP netPP
    rw [up_c _ _ (by decide), up_c _ _ (by decide), netP_c K _ (by decide) (by decide), up_c _ _ (by decide), up_s]
  have h6 : P11 K n 6 0 = some (K.aad 5) := by
    rw [P11_lo K n (by decide)]
    unfold lpP netPP
    rw [up_c _ _ (by decide), up_c _ _ (by decide), netP_c K _ (by decide) (by decide), up_s]
  refine ⟨fun s hs => ?_, 0, fun u j => 2 * j + u, 0, 0, ⟨by decide, by decide, by decide, hB 70 0 (by decide), hB 72 0 (by decide), h5, h6, fun u j hu hj => ⟨?_, by show 2 * j + u < 600; omega⟩, fun u j u' j' hu hj hu' hj' e => by replace e : 2 * j + u = 2 * j' + u' := e; omega⟩, fun k x hx => by simp at hx, hB 71 0 (by decide), by decide, fun k x hx => by simp at hx, ⟨fun w hw => hB _ _ (by omega), fun h => absurd h (by decide), fun h => absurd h (by decide)⟩, fun q hq => Or.inl (hB 91 q (by decide))⟩
  · unfold lpB srvB
    rcases (show s = 0 ∨ s = 1 by omega) with rfl | rfl
    · simp [up_rd]; decide
    · simp [up_rd]; decide
  · rw [P11_lo K n (by omega)]
    unfold lpP netPP
    rw [up_c _ _ (by omega), up_c _ _ (by omega)]
    rcases (show u = 0 ∨ u = 1 by omega) with rfl | rfl
    · exact (netP_lt K _ 300 hj).1
    · exact (netP_lt K _ 300 hj).2
theorem st_start {K : Kx} {n : Nat} (kf : KF K n) (ld sk : Int32) : ST K n ld sk (lpA (A00 ld) n sk) (lpB Z00 ld sk) Z00 (P11 K n) [] :=
  ⟨cs_start kf, ⟨_, _, nc_start kf ld sk⟩, ms_start kf, ⟨by decide, rfl, fun k x hx => by simp at hx⟩, inv_start kf.1.2 ld sk⟩
