/-! LeasePair: what a caller may ask -/
theorem b01_n0 {c : Prop} [Decidable c] (h : ¬ b01 c = 0) : c := Decidable.byContradiction fun z => h (b01_f z)
def wn (x a b : Int32) : Prop := ¬ x < a ∧ ¬ b < x
theorem wn_nat {x : Int32} {b : Nat} (hb : b < 2 ^ 31) (h : ¬ x < 0 ∧ ¬ nI b < x) : ∃ s, s < b + 1 ∧ x = nI s := by
  have h1 : (0 : Int32).toInt ≤ x.toInt := by have := h.1; rw [Int32.lt_iff_toInt_lt] at this; omega
  have h2 : x.toInt ≤ (nI b).toInt := by have := h.2; rw [Int32.lt_iff_toInt_lt] at this; omega
  rw [nI_toInt hb] at h2
  have h0 : (0 : Int32).toInt = 0 := rfl
  rw [h0] at h1
  refine ⟨x.toInt.toNat, by omega, ?_⟩
  apply Int32.toInt_inj.mp
  rw [nI_toInt (by omega)]
  omega
theorem hRx {X : Jx} {md : Mx} {K : Kx} {d d' : Nat × Nat} {mc ms n : Nat} {V : Vx} {I : MI3} {P : MP} {post : Px} {xp : Prop} (h : HXX X md K d mc ms V I P post xp) (h1 : d'.1 + 1 ≤ d.1) (h2 : n + 19 + d'.2 ≤ d.2) : d'.1 + 1 ≤ X.R.frames ∧ n + 19 + d'.2 ≤ X.R.locals := by have z := hR_of h.1 h1 h2; exact z
theorem hfx {X : Jx} {md : Mx} {K : Kx} {d : Nat × Nat} {mc ms cells slots mc' ms' : Nat} {V : Vx} {I : MI3} {P : MP} {post : Px} {xp : Prop} (h : HXX X md K d mc ms V I P post xp) (h1 : cells + mc' ≤ mc) (h2 : slots + ms' ≤ ms) : cells + mc' ≤ X.R.cells ∧ slots + ms' ≤ X.R.slots := by have z := hf_of h.1 h1 h2; exact z
def OKP (p : Prop) (post : Px) : Px := fun V' r I' P' => p ∧ post V' r I' P' 
theorem d_LP_serverOf_0 : decode b_LP_serverOf 0 = .ok (.iload_n 1, 1) := by decide +kernel
theorem d_LP_serverOf_1 : decode b_LP_serverOf 1 = .ok (.iconst 0, 1) := by decide +kernel
theorem d_LP_serverOf_2 : decode b_LP_serverOf 2 = .ok (.iconst 1, 1) := by decide +kernel
theorem d_LP_serverOf_3 : decode b_LP_serverOf 3 = .ok (.invokestatic 51, 3) := by decide +kernel
theorem d_LP_serverOf_6 : decode b_LP_serverOf 6 = .ok (.invokestatic 59, 3) := by decide +kernel
theorem d_LP_serverOf_9 : decode b_LP_serverOf 9 = .ok (.aload_n 0, 1) := by decide +kernel
theorem d_LP_serverOf_10 : decode b_LP_serverOf 10 = .ok (.getfield 22, 3) := by decide +kernel
theorem d_LP_serverOf_13 : decode b_LP_serverOf 13 = .ok (.iload_n 1, 1) := by decide +kernel
theorem d_LP_serverOf_14 : decode b_LP_serverOf 14 = .ok (.aaload, 1) := by decide +kernel
theorem d_LP_serverOf_15 : decode b_LP_serverOf 15 = .ok (.areturn, 1) := by decide +kernel
set_option maxRecDepth 100000 in
set_option maxHeartbeats 4000000 in
theorem c_LP_serverOf (l : Launch) (hlt : l.stackTraces = false) (K : Kx) (V : Vx) (A B C D : MI) (P : MP) (hV : ∀ z, V.2.2 z) (n : Nat) (cs : CS K V P n) (z : Int32) : CtX l K md_LP_serverOf (9, 120) 1 6 [.ref (K.ad 0 0), .int z] V (bk4 A B C D) P (fun V' r I' P' => ∃ s, s < 2 ∧ z = nI s ∧ EQ V (some (.ref (K.ad 1 s))) (bk4 A B C D) P V' r I' P') (¬ wn z 0 1) := by
  refine ctx_of [(0, .ref (K.ad 0 0)), (1, .int z)] (by decide) (Nat.le_of_ble_eq_true rfl) (ca_r (ca_i ca_n)) rfl ?_
  intro X hl hXX
  have hX := hXX.1
  have h : OkX X b_LP_serverOf R_LP K := hX.1
  have hN : X.nL = 2 := hX.2.1
  have hlt9 : X.l.stackTraces = false := by rw [hl]; exact hlt
  have hlv := cs_lv cs
  refine j_iload_n h d_LP_serverOf_0 rfl ?_
  refine j_iconst (v := 0) h d_LP_serverOf_1 (by decide) ?_
  refine j_iconst (v := 1) h d_LP_serverOf_2 (by decide) ?_
  refine j_callS h (c_LP_isWithin _ _ _ _ _ _ _ _ _ _ _) d_LP_serverOf_3 ml_LP_51 ms_LP_isWithin rfl rfl (Nat.le_of_ble_eq_true rfl) (hRx hXX (by decide) (by decide)) (hfx hXX (by decide) (by decide)) ?_
  rintro _ _ _ _ ⟨rfl, rfl, rfl, rfl⟩
  refine jx_callS h (c_LP_need _ hlt9 _ _ _ _ hV _) d_LP_serverOf_6 ml_LP_59 ms_LP_need rfl rfl (Nat.le_of_ble_eq_true rfl) (hRx hXX (by decide) (by decide)) (hfx hXX (by decide) (by decide)) (fun hx => jx_out hXX (by first | exact absurd hx (by decide) | (clear hX hXX h hl; simp_all [b01_0, wn]; done) | (clear hX hXX h hl; grind [b01_0, wn])) (by decide) (by decide)) ?_
  rintro _ _ _ _ ⟨⟨rfl, rfl, rfl, rfl⟩, cn6⟩
  obtain ⟨s, hs, rfl⟩ := wn_nat (b := 1) (by decide) (b01_n0 cn6)
  refine j_aload_n h d_LP_serverOf_9 rfl ?_
  refine j_getR h d_LP_serverOf_10 fl_LP_22 rfl (by assumption) (cs_p0 cs) ?_
  refine j_iload_n h d_LP_serverOf_13 rfl ?_
  refine j_srvs h cs hs d_LP_serverOf_14 ?_
  exact jx_ret hXX (j_aret hX d_LP_serverOf_15 rfl (by decide) (by decide) ⟨s, hs, rfl, rfl, rfl, rfl, rfl⟩)
theorem d_LP_clientOf_0 : decode b_LP_clientOf 0 = .ok (.iload_n 1, 1) := by decide +kernel
theorem d_LP_clientOf_1 : decode b_LP_clientOf 1 = .ok (.iconst 0, 1) := by decide +kernel
theorem d_LP_clientOf_2 : decode b_LP_clientOf 2 = .ok (.bipush 15, 2) := by decide +kernel
theorem d_LP_clientOf_4 : decode b_LP_clientOf 4 = .ok (.invokestatic 51, 3) := by decide +kernel
theorem d_LP_clientOf_7 : decode b_LP_clientOf 7 = .ok (.invokestatic 59, 3) := by decide +kernel
theorem d_LP_clientOf_10 : decode b_LP_clientOf 10 = .ok (.aload_n 0, 1) := by decide +kernel
theorem d_LP_clientOf_11 : decode b_LP_clientOf 11 = .ok (.getfield 31, 3) := by decide +kernel
theorem d_LP_clientOf_14 : decode b_LP_clientOf 14 = .ok (.iload_n 1, 1) := by decide +kernel
theorem d_LP_clientOf_15 : decode b_LP_clientOf 15 = .ok (.aaload, 1) := by decide +kernel
theorem d_LP_clientOf_16 : decode b_LP_clientOf 16 = .ok (.areturn, 1) := by decide +kernel
set_option maxRecDepth 100000 in
set_option maxHeartbeats 4000000 in
theorem c_LP_clientOf (l : Launch) (hlt : l.stackTraces = false) (K : Kx) (V : Vx) (A B C D : MI) (P : MP) (hV : ∀ z, V.2.2 z) (n : Nat) (cs : CS K V P n) (z : Int32) : CtX l K md_LP_clientOf (9, 120) 1 6 [.ref (K.ad 0 0), .int z] V (bk4 A B C D) P (fun V' r I' P' => ∃ c, c < 16 ∧ z = nI c ∧ EQ V (some (.ref (K.ad 3 c))) (bk4 A B C D) P V' r I' P') (¬ wn z 0 15) := by
  refine ctx_of [(0, .ref (K.ad 0 0)), (1, .int z)] (by decide) (Nat.le_of_ble_eq_true rfl) (ca_r (ca_i ca_n)) rfl ?_
  intro X hl hXX
  have hX := hXX.1
  have h : OkX X b_LP_clientOf R_LP K := hX.1
  have hN : X.nL = 2 := hX.2.1
  have hlt9 : X.l.stackTraces = false := by rw [hl]; exact hlt
  have hlv := cs_lv cs
  refine j_iload_n h d_LP_clientOf_0 rfl ?_
  refine j_iconst (v := 0) h d_LP_clientOf_1 (by decide) ?_
  refine j_bipush (v := 15) h d_LP_clientOf_2 (by decide) ?_
  refine j_callS h (c_LP_isWithin _ _ _ _ _ _ _ _ _ _ _) d_LP_clientOf_4 ml_LP_51 ms_LP_isWithin rfl rfl (Nat.le_of_ble_eq_true rfl) (hRx hXX (by decide) (by decide)) (hfx hXX (by decide) (by decide)) ?_
  rintro _ _ _ _ ⟨rfl, rfl, rfl, rfl⟩
  refine jx_callS h (c_LP_need _ hlt9 _ _ _ _ hV _) d_LP_clientOf_7 ml_LP_59 ms_LP_need rfl rfl (Nat.le_of_ble_eq_true rfl) (hRx hXX (by decide) (by decide)) (hfx hXX (by decide) (by decide)) (fun hx => jx_out hXX (by first | exact absurd hx (by decide) | (clear hX hXX h hl; simp_all [b01_0, wn]; done) | (clear hX hXX h hl; grind [b01_0, wn])) (by decide) (by decide)) ?_
  rintro _ _ _ _ ⟨⟨rfl, rfl, rfl, rfl⟩, cn7⟩
  obtain ⟨c, hc, rfl⟩ := wn_nat (b := 15) (by decide) (b01_n0 cn7)
  refine j_aload_n h d_LP_clientOf_10 rfl ?_
  refine j_getR h d_LP_clientOf_11 fl_LP_31 rfl (by assumption) (cs_p1 cs) ?_
  refine j_iload_n h d_LP_clientOf_14 rfl ?_
  refine j_clis h cs hc d_LP_clientOf_15 ?_
  exact jx_ret hXX (j_aret hX d_LP_clientOf_16 rfl (by decide) (by decide) ⟨c, hc, rfl, rfl, rfl, rfl, rfl⟩)
