/-! messages that can be delivered; carryAll -/
def NV (n : Nat) (N : List Msg) : Prop := ∀ x, x ∈ N → VMsg n x
theorem NV_put {n : Nat} {N : List Msg} {x : Msg} (h : NV n N) (hx : VMsg n x) : NV n (netput x N) := by
  intro y hy
  unfold netput at hy
  split at hy
  · rcases List.mem_append.mp hy with h1 | h1
    · exact h y (List.mem_of_mem_tail h1)
    · rw [List.mem_singleton.mp h1]; exact hx
  · rcases List.mem_append.mp hy with h1 | h1
    · exact h y h1
    · rw [List.mem_singleton.mp h1]; exact hx
theorem VM_hello {n s : Nat} {A : MI} : VMsg n (m_hello A s) ∨ 2 ≤ s := by
  by_cases h : s < 2
  · exact Or.inl (Or.inr (Or.inr (Or.inl ⟨rfl, 1 - s, by omega, rfl⟩)))
  · exact Or.inr (by omega)
theorem VM_hel {n s : Nat} {A : MI} (h : s < 2) : VMsg n (m_hello A s) := VM_hello.resolve_right (by omega)
theorem VM_upd {n s a : Nat} {A : MI} (hs : s < 2) (ha : a < n) (z : Zc A) : VMsg n (m_upd A s a) := Or.inr (Or.inr (Or.inr ⟨Or.inl rfl, 1 - s, a, by omega, ha, rfl, rfl, (z (32 * s + a)).1⟩))
theorem VM_ack {n s a : Nat} {A : MI} {p q : Int32} (hs : s < 2) (ha : a < n) : VMsg n (m_ack A s a p q) := Or.inr (Or.inr (Or.inr ⟨Or.inr rfl, 1 - s, a, by omega, ha, rfl, rfl, Or.inl rfl⟩))
theorem VM_no {n s c : Nat} {num : Int32} (hc : c < 16) : VMsg n (m_ans s (nI c) num 0 (-1) 0) := Or.inr (Or.inl ⟨rfl, c, hc, rfl, Or.inl rfl⟩)
theorem VM_yes {n s c a : Nat} {num e : Int32} (hc : c < 16) (ha : a < n) : VMsg n (m_ans s (nI c) num 1 (nI a) e) := Or.inr (Or.inl ⟨rfl, c, hc, rfl, Or.inr ⟨rfl, a, ha, rfl⟩⟩)
theorem VM_req {n s c a : Nat} {A : MI} {k sec : Int32} (hc : c < 16) (hs : s < 2) (ha : a < n) (hk : wn k 0 2) : VMsg n (m_req A c s a k sec) := by
  obtain ⟨j, hj, rfl⟩ := wn_nat (b := 2) (by decide) hk
  refine Or.inl ⟨rfl, s, c, hs, hc, rfl, rfl, ?_⟩
  rcases (show j = 0 ∨ j = 1 ∨ j = 2 by omega) with rfl | rfl | rfl
  · exact Or.inl rfl
  · exact Or.inr ⟨Or.inl rfl, a, ha, rfl⟩
  · exact Or.inr ⟨Or.inr rfl, a, ha, rfl⟩
theorem NV_updR {n s : Nat} {A : MI} (hs : s < 2) (z : Zc A) : ∀ (k i : Nat) (N : List Msg), i + k ≤ n → NV n N → NV n (updR A s k i N) := by
  intro k
  induction k with
  | zero => intro i N _ h; exact h
  | succ k ih => intro i N hi h; exact ih _ _ (by omega) (NV_put h (VM_upd hs (by omega) z))
theorem NV_penR {n s : Nat} {A : MI} (hs : s < 2) (z : Zc A) : ∀ (k i : Nat) (g : Int32) (N : List Msg), i + k ≤ n → NV n N → NV n (penR A s k i g N).2 := by
  intro k
  induction k with
  | zero => intro i g N _ h; exact h
  | succ k ih =>
    intro i g N hi h
    unfold penR
    split
    · exact ih _ _ _ (by omega) h
    · exact ih _ _ _ (by omega) (NV_put h (VM_upd hs (by omega) z))
theorem NV_spf {n s : Nat} {A : MI} {N : List Msg} (hs : s < 2) (z : Zc A) (h : NV n N) : NV n (spf A s n N).2 := by
  unfold spf
  split
  · exact NV_penR hs z _ _ _ _ (by omega) (NV_put h (VM_hel hs))
  · exact NV_penR hs z _ _ _ _ (by omega) h
theorem NV_hhN {n s : Nat} {A : MI} {num : Int32} {N : List Msg} (hs : s < 2) (z : Zc A) (h : NV n N) : NV n (hhN A s n num N) := by
  unfold hhN
  split
  · exact h
  · exact NV_updR hs ((ZK_hhA (ZK.refl A)).1 z) _ _ _ (by omega) h
theorem NV_hupN {n s a : Nat} {A : MI} {t : Int32} {x : Msg} {N : List Msg} (hs : s < 2) (ha : a < n) (h : NV n N) : NV n (hupN A s a n t x N) := by
  unfold hupN
  split
  · unfold uN
    split
    · exact NV_put h (VM_ack hs ha)
    · exact h
  · exact h
theorem NV_fN {n s c : Nat} {A : MI} {v num : Int32} {N : List Msg} (hc : c < 16) (hv : v = -1 ∨ ∃ a, a < n ∧ v = nI a) (h : NV n N) : NV n (fN A s v (nI c) num N) := by
  unfold fN
  split
  · exact h
  · refine NV_put h ?_
    split
    · exact VM_no hc
    · rcases hv with hv | ⟨a, ha, rfl⟩
      · rename_i h1
        exact absurd hv h1
      · exact VM_yes hc ha
theorem NV_hrnN {n s a c : Nat} {A : MI} {ld t : Int32} {x : Msg} {N : List Msg} (ha : a < n) (hc : c < 16) (hx : x 2 = nI c) (h : NV n N) : NV n (hrnN A s a ld t x N) := by
  unfold hrnN
  rw [hx]
  split
  · exact h
  · rename_i h1
    refine NV_fN hc ?_ h
    generalize hR : rnw A (32 * s + a) s a ld t (nI c) (x 6) (x 5) = R at h1 ⊢
    unfold rnw at hR
    split at hR
    · subst hR; exact Or.inl rfl
    · split at hR
      · subst hR; exact absurd rfl h1
      · split at hR
        · subst hR; exact Or.inl rfl
        · subst hR; exact Or.inr ⟨a, ha, rfl⟩
theorem NV_hnwN {n s c : Nat} {A : MI} {ld t : Int32} {x : Msg} {N : List Msg} (hn : n < 2 ^ 31) (hc : c < 16) (hx : x 2 = nI c) (h : NV n N) : NV n (hnwN A s n ld t x N) := by
  unfold hnwN
  split
  · rw [hx]
    refine NV_fN hc ?_ h
    rcases lstOwn_c A s n 0 with h1 | ⟨a, ha, h1, -⟩
    · exact Or.inl h1
    · exact Or.inr ⟨a, by omega, h1⟩
  · rename_i h1
    rcases lsdTo_c A s (x 2) t n 0 with h2 | ⟨a, ha, h2⟩
    · exact absurd h2 h1
    · rw [h2, nI_clamp (by omega)]
      exact NV_hrnN (by omega) hc hx h
theorem NV_dlN {n : Nat} {A : MI} {ld : Int32} {x : Msg} {N : List Msg} (hn : n < 2 ^ 31) (z : Zc A) (hx : VMsg n x) (h : NV n N) : NV n (dlN A n ld x N) := by
  unfold dlN
  split
  · exact h
  · rename_i h1
    split
    · exact h
    · rcases hx with ⟨h0, s, c, hs, hc, hx1, hx2, hk⟩ | ⟨h0, c, hc, hx1, hk⟩ | ⟨h0, s, hs, hx1⟩ | ⟨h0, s, a, hs, ha, hx1, hx4, hx11⟩
      · rw [if_pos h0, hx1, nI_clamp (by omega)]
        split
        · exact h
        · rename_i k2
          split
          · rename_i k1
            rcases hk with hk | ⟨hk, a, ha, hx4⟩
            · rw [hk] at k1; exact absurd k1 (by decide)
            · rw [hx4, nI_clamp (by omega)]
              exact NV_hrnN ha hc hx2 h
          · exact NV_hnwN hn hc hx2 h
      · exact absurd h0 h1
      · rw [if_neg (by rw [h0]; decide), if_pos h0, hx1, nI_clamp (by omega)]
        exact NV_hhN hs z h
      · rcases h0 with h0 | h0
        · rw [if_neg (by rw [h0]; decide), if_neg (by rw [h0]; decide), if_pos h0, hx1, nI_clamp (by omega), hx4, nI_clamp (by omega)]
          exact NV_hupN hs ha h
        · rw [if_neg (by rw [h0]; decide), if_neg (by rw [h0]; decide), if_neg (by rw [h0]; decide)]
          exact h
/-- all of T delivered in turn -/
noncomputable def caR (n : Nat) (ld : Int32) : List Msg → MI → List Msg → MI × List Msg
  | [], A, N => (A, N)
  | x :: T, A, N => caR n ld T (dlA A n ld x) (dlN A n ld x N)
theorem caR_drop {n : Nat} {ld : Int32} {T : List Msg} {i : Nat} {x : Msg} {A : MI} {N : List Msg} (h : T[i]? = some x) : caR n ld (T.drop i) A N = caR n ld (T.drop (i + 1)) (dlA A n ld x) (dlN A n ld x N) := by
  obtain ⟨hi, e⟩ := List.getElem?_eq_some_iff.mp h
  rw [List.drop_eq_getElem_cons hi, e]
  rfl
theorem caR_stay (n : Nat) (ld : Int32) (hn : n < 2 ^ 31) (T : List Msg) : ∀ (A0 A : MI) (N : List Msg), NV n T → NV n N → ZK A0 A → Zc A → NV n (caR n ld T A N).2 ∧ ZK A0 (caR n ld T A N).1 := by
  induction T with
  | nil => intro A0 A N _ h2 h3 _; exact ⟨h2, h3⟩
  | cons x T ih => intro A0 A N h1 h2 h3 z; exact ih A0 _ _ (fun y hy => h1 y (List.mem_cons_of_mem _ hy)) (NV_dlN hn z (h1 x List.mem_cons_self) h2) (ZK_dlA h3) ((ZK_dlA (ZK.refl A)).1 z)
theorem offR_t {K : Kx} {P : MP} {B : MI} {t f c j : Nat} {g : Nat → Nat → Nat} (inj : ∀ q q', q < 601 → q' < 601 → K.ad 5 q = K.ad 5 q' → q = q') (inja : K.aad 4 ≠ K.aad 5) (rg : RG K P B t g f c) (hj : j < 300) : offR K P (g (1 - t) j) := by
  obtain ⟨ht, hf, hc, b70, b72, p5, p6, hg, hgi⟩ := rg
  intro t1 j1 ht1 hp hj1 he
  have htt : t1 = t := by
    rw [p5] at hp
    have hp := Option.some.inj hp
    rcases (show t = 0 ∨ t = 1 by omega) with rfl | rfl <;> rcases (show t1 = 0 ∨ t1 = 1 by omega) with rfl | rfl
    · rfl
    · exact absurd hp inja
    · exact absurd hp.symm inja
    · rfl
  subst htt
  rw [(hg t1 j1 ht1 hj1).1] at he
  have h1 := (hg t1 j1 ht1 hj1).2
  have h2 := (hg (1 - t1) j (by omega) hj).2
  have := (hgi t1 j1 (1 - t1) j ht hj1 (by omega) hj (inj _ _ (by omega) (by omega) (Option.some.inj he))).1
  omega
theorem d_LP_carryAll_0 : decode b_LP_carryAll 0 = .ok (.aload_n 0, 1) := by decide +kernel
theorem d_LP_carryAll_1 : decode b_LP_carryAll 1 = .ok (.getfield 39, 3) := by decide +kernel
theorem d_LP_carryAll_4 : decode b_LP_carryAll 4 = .ok (.invokevirtual 154, 3) := by decide +kernel
theorem d_LP_carryAll_7 : decode b_LP_carryAll 7 = .ok (.istore_n 1, 1) := by decide +kernel
theorem d_LP_carryAll_8 : decode b_LP_carryAll 8 = .ok (.iconst 0, 1) := by decide +kernel
theorem d_LP_carryAll_9 : decode b_LP_carryAll 9 = .ok (.istore_n 2, 1) := by decide +kernel
theorem d_LP_carryAll_10 : decode b_LP_carryAll 10 = .ok (.iload_n 2, 1) := by decide +kernel
theorem d_LP_carryAll_11 : decode b_LP_carryAll 11 = .ok (.iload_n 1, 1) := by decide +kernel
theorem d_LP_carryAll_12 : decode b_LP_carryAll 12 = .ok (.if_icmp .ge 22, 3) := by decide +kernel
theorem d_LP_carryAll_15 : decode b_LP_carryAll 15 = .ok (.aload_n 0, 1) := by decide +kernel
theorem d_LP_carryAll_16 : decode b_LP_carryAll 16 = .ok (.aload_n 0, 1) := by decide +kernel
theorem d_LP_carryAll_17 : decode b_LP_carryAll 17 = .ok (.getfield 39, 3) := by decide +kernel
theorem d_LP_carryAll_20 : decode b_LP_carryAll 20 = .ok (.iload_n 2, 1) := by decide +kernel
theorem d_LP_carryAll_21 : decode b_LP_carryAll 21 = .ok (.invokevirtual 158, 3) := by decide +kernel
theorem d_LP_carryAll_24 : decode b_LP_carryAll 24 = .ok (.invokevirtual 150, 3) := by decide +kernel
theorem d_LP_carryAll_27 : decode b_LP_carryAll 27 = .ok (.pop, 1) := by decide +kernel
theorem d_LP_carryAll_28 : decode b_LP_carryAll 28 = .ok (.iinc 2 1, 3) := by decide +kernel
theorem d_LP_carryAll_31 : decode b_LP_carryAll 31 = .ok (.goto (-21), 3) := by decide +kernel
theorem d_LP_carryAll_34 : decode b_LP_carryAll 34 = .ok (.iload_n 1, 1) := by decide +kernel
theorem d_LP_carryAll_35 : decode b_LP_carryAll 35 = .ok (.ireturn, 1) := by decide +kernel
set_option maxRecDepth 100000 in
set_option maxHeartbeats 4000000 in
theorem c_LP_carryAll (l : Launch) (K : Kx) (V : Vx) (A B C D : MI) (P : MP) (n : Nat) (cs : CS K V P n) (ld sk : Int32) (N T : List Msg) (U : Msg) (hnc : NC K P B ld sk N T U) (inj : ∀ q q', q < 601 → q' < 601 → K.ad 5 q = K.ad 5 q' → q = q') (inja : K.aad 4 ≠ K.aad 5) (hz : Zc A) (hvm : NV n N) : Ct l K md_LP_carryAll (7, 138) 0 0 [.ref (K.ad 0 0)] V (bk4 A B C D) P (TP K V C D P ld sk (some (.int (nI N.length))) (caR n ld N A []).1 (caR n ld N A []).2 N U) := by
  refine ct_of [(0, .ref (K.ad 0 0))] (by decide) (Nat.le_of_ble_eq_true rfl) (ca_r ca_n) rfl ?_
  intro X hl hX
  have h : OkX X b_LP_carryAll R_LP K := hX.1
  have hN : X.nL = 3 := hX.2.1
  have hlv := cs_lv cs
  have hN3 : N.length ≤ 300 := by obtain ⟨-, t, g, f, ft, nw⟩ := hnc; exact nw.1.2.2.1
  have hnv := cs_nv cs
  refine j_aload_n h d_LP_carryAll_0 rfl ?_
  refine j_getR h d_LP_carryAll_1 fl_LP_39 rfl (by assumption) (cs_p2 cs) ?_
  refine j_callV h (c_Net_takeAll _ _ _ _ _ _ _ _ _ cs _ _ _ _ _ hnc) d_LP_carryAll_4 ml_LP_154 mv_Net_takeAll (by assumption) ⟨rfl, rfl⟩ rfl rfl (Nat.le_of_ble_eq_true rfl) (hR_of hX (by decide) (by decide)) (hf_of hX (by decide) (by decide)) ?_
  rintro V2 _ _ P2 ⟨rfl, rfl, pe, B2, rfl, hn2⟩
  have cs := CS_pe pe cs
  refine j_istore_n h d_LP_carryAll_7 (Nat.lt_of_lt_of_eq (m := 3) (by decide) hN.symm) ?_
  refine j_iconst (v := 0) h d_LP_carryAll_8 (by decide) ?_
  refine j_istore_n h d_LP_carryAll_9 (Nat.lt_of_lt_of_eq (m := 3) (by decide) hN.symm) ?_
  have hL : ∀ (k i : Nat) (A1 B1 : MI) (N1 : List Msg), i + k = N.length → caR n ld N A [] = caR n ld (N.drop i) A1 N1 ∧ Zc A1 ∧ NC K P2 B1 ld sk N1 N U ∧ V2 = V2 → J X K V2 (bk4 A1 B1 C D) P2 0 0 10 [(0, .ref (K.ad 0 0)), (1, .int (nI N.length)), (2, .int (nI i))] [] := by
    intro k
    induction k with
    | zero =>
      intro i A1 B1 N1 hi hv
      have hi2 : i = N.length := by omega
      subst hi2
      refine j_iload_n h d_LP_carryAll_10 rfl ?_
      refine j_iload_n h d_LP_carryAll_11 rfl ?_
      refine j_ic_ge (tgt := 34) h d_LP_carryAll_12 (by decide) (fun _ => ?_) (fun c => absurd (nI_le (Nat.le_refl _) (by omega)) c)
      rw [List.drop_length] at hv
      refine j_iload_n h d_LP_carryAll_34 rfl ?_
      exact j_iret hX d_LP_carryAll_35 rfl (Nat.le_refl _) (Nat.le_refl _) ⟨rfl, rfl, pe, _, by rw [hv.1]; rfl, by rw [hv.1]; exact hv.2.2.1⟩
    | succ k ih =>
      intro i A1 B1 N1 hi hv
      have hi2 : i < N.length := by omega
      obtain ⟨kb, t, g, f, ft, nw⟩ := id hv.2.2.1
      obtain ⟨x, hx⟩ : ∃ x, N[i]? = some x := ⟨_, List.getElem?_eq_getElem hi2⟩
      have hj := nw.2.2.2.2.1 i x hx
      have hqv := cs_mv cs (Nat.lt_succ_of_lt (nw.1.2.2.2.2.2.2.2.1 (1 - t) ((ft + i) % 300) (by omega) (Nat.mod_lt _ (by decide))).2)
      have hnv := cs_nv cs
      refine j_iload_n h d_LP_carryAll_10 rfl ?_
      refine j_iload_n h d_LP_carryAll_11 rfl ?_
      refine j_ic_ge (tgt := 34) h d_LP_carryAll_12 (by decide) (fun c => absurd c (nI_ge hi2 (by omega))) (fun _ => ?_)
      refine j_aload_n h d_LP_carryAll_15 rfl ?_
      refine j_aload_n h d_LP_carryAll_16 rfl ?_
      refine j_getR h d_LP_carryAll_17 fl_LP_39 rfl (by assumption) (cs_p2 cs) ?_
      refine j_iload_n h d_LP_carryAll_20 rfl ?_
      refine j_callV h (c_Net_takenAt _ _ _ _ _ _ _ _ _ cs _ _ _ _ nw.1 _ nw.2.2.2.1 nw.2.2.1 _ hj.1) d_LP_carryAll_21 ml_LP_158 mv_Net_takenAt (by assumption) ⟨rfl, rfl⟩ rfl rfl (Nat.le_of_ble_eq_true rfl) (hR_of hX (by decide) (by decide)) (hf_of hX (by decide) (by decide)) ?_
      rintro _ _ _ _ ⟨rfl, rfl, rfl, rfl⟩
      refine j_callV h (c_LP_deliver _ _ _ _ _ _ _ _ _ cs _ _ _ _ _ hv.2.2.1 _ hqv _ hj.2 (offR_t inj inja nw.1 (Nat.mod_lt _ (by decide))) (hvm x (List.mem_of_getElem? hx)) (fun i => (hv.2.1 i).1)) d_LP_carryAll_24 ml_LP_150 mv_LP_deliver (by assumption) ⟨rfl, rfl⟩ rfl rfl (Nat.le_of_ble_eq_true rfl) (hR_of hX (by decide) (by decide)) (hf_of hX (by decide) (by decide)) ?_
      rintro _ _ _ _ ⟨rfl, rfl, rfl, B3, rfl, hn3⟩
      refine j_pop h d_LP_carryAll_27 rfl ?_
      refine j_iinc (v := nI (i + 1)) h d_LP_carryAll_28 rfl (nI_i i) (Nat.lt_of_lt_of_eq (m := 3) (by decide) hN.symm) ?_
      refine j_goto (tgt := 10) h d_LP_carryAll_31 (by decide) ?_
      refine j_lv (lv' := [(0, .ref (K.ad 0 0)), (1, .int (nI N.length)), (2, .int (nI (i + 1)))]) (lvs rfl (lvs rfl (lvs rfl lvs0))) ?_
      exact ih (i + 1) _ _ _ (by omega) ⟨hv.1.trans (caR_drop hx), (ZK_dlA (ZK.refl A1)).1 hv.2.1, hn3, rfl⟩
  refine j_lv (lv' := [(0, .ref (K.ad 0 0)), (1, .int (nI N.length)), (2, .int (nI 0))]) (lvs rfl (lvs rfl (lvs rfl lvs0))) ?_
  exact hL N.length 0 A B2 [] (by omega) ⟨rfl, hz, hn2, rfl⟩
