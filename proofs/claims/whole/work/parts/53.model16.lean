/-! kinds in messages; leases of clients; the model carries all -/
def NK (N : List Msg) : Prop := ∀ x, x ∈ N → x 0 = 3 → K5 (x 3)
theorem NK_put {N : List Msg} {x : Msg} (h : NK N) (hx : x 0 = 3 → K5 (x 3)) : NK (netput x N) := by
  intro y hy
  unfold netput at hy
  split at hy
  · rcases List.mem_append.mp hy with h1 | h1
    · exact h y (List.mem_of_mem_tail h1)
    · rw [List.mem_singleton.mp h1]; exact hx
  · rcases List.mem_append.mp hy with h1 | h1
    · exact h y h1
    · rw [List.mem_singleton.mp h1]; exact hx
theorem NK_hel {N : List Msg} {A : MI} {s : Nat} (h : NK N) : NK (netput (m_hello A s) N) := NK_put h (fun q => absurd q (show ¬ (2 : Int32) = 3 by decide))
theorem NK_req {N : List Msg} {A : MI} {c s a : Nat} {k q : Int32} (h : NK N) : NK (netput (m_req A c s a k q) N) := NK_put h (fun q => absurd q (show ¬ (0 : Int32) = 3 by decide))
theorem NK_updR {s : Nat} {A : MI} (z : K10 A) : ∀ (k i : Nat) (N : List Msg), NK N → NK (updR A s k i N) := by
  intro k
  induction k with
  | zero => intro i N h; exact h
  | succ k ih => intro i N h; exact ih _ _ (NK_put h (fun _ => z _))
theorem NK_penR {s : Nat} {A : MI} (z : K10 A) : ∀ (k i : Nat) (g : Int32) (N : List Msg), NK N → NK (penR A s k i g N).2 := by
  intro k
  induction k with
  | zero => intro i g N h; exact h
  | succ k ih =>
    intro i g N h
    unfold penR
    split
    · exact ih _ _ _ h
    · exact ih _ _ _ (NK_put h (fun _ => z _))
theorem NK_spf {n s : Nat} {A : MI} {N : List Msg} (z : K10 A) (h : NK N) : NK (spf A s n N).2 := by
  unfold spf
  split
  · exact NK_penR z _ _ _ _ (NK_hel h)
  · exact NK_penR z _ _ _ _ h
theorem NK_fN {s : Nat} {A : MI} {v c num : Int32} {N : List Msg} (h : NK N) : NK (fN A s v c num N) := by
  unfold fN
  split
  · exact h
  · refine NK_put h (fun q => ?_)
    split at q
    · exact absurd q (show ¬ (1 : Int32) = 3 by decide)
    · exact absurd q (show ¬ (1 : Int32) = 3 by decide)
theorem NK_hrnN {s a : Nat} {A : MI} {ld t : Int32} {x : Msg} {N : List Msg} (h : NK N) : NK (hrnN A s a ld t x N) := by
  unfold hrnN
  split
  · exact h
  · exact NK_fN h
theorem NK_dlN {n : Nat} {A : MI} {ld : Int32} {x : Msg} {N : List Msg} (z : K10 A) (h : NK N) : NK (dlN A n ld x N) := by
  unfold dlN
  split
  · exact h
  · split
    · exact h
    · split
      · split
        · exact h
        · split
          · exact NK_hrnN h
          · unfold hnwN
            split
            · exact NK_fN h
            · exact NK_hrnN h
      · split
        · unfold hhN
          split
          · exact h
          · exact NK_updR (K1_hhA (K1.refl A) z) _ _ _ h
        · split
          · unfold hupN
            split
            · unfold uN
              split
              · exact NK_put h (fun q => absurd q (show ¬ (4 : Int32) = 3 by decide))
              · exact h
            · exact h
          · exact h
def L30 (A : MI) : Prop := ∀ c, c < 16 → (A 30 c = -1 ↔ A 30 c < 0) ∧ (A 30 c = -1 → A 31 c = 0)
theorem L30_r3 {A A' : MI} (h : L30 A) (r : R3 A A') : L30 A' := by
  intro c hc
  rw [r 30 c (by decide), r 31 c (by decide)]
  exact h c hc
theorem L30_an {A : MI} {c0 a : Nat} {w u v : Int32} (h : L30 A) (ha : a < 2 ^ 31) (e4 : w = nI a) : L30 (up (up (up A 30 c0 w) 31 c0 u) 41 0 v) := by
  intro c hc
  by_cases q : c = c0
  · have e1 : up (up (up A 30 c0 w) 31 c0 u) 41 0 v 30 c = nI a := by simp [up_rd, q, e4]
    rw [e1]
    exact ⟨⟨fun e => absurd e (nI_m1 ha), fun e => absurd e (nI_n0 ha)⟩, fun e => absurd e (nI_m1 ha)⟩
  · have e1 : up (up (up A 30 c0 w) 31 c0 u) 41 0 v 30 c = A 30 c := by simp [up_rd, q]
    have e2 : up (up (up A 30 c0 w) 31 c0 u) 41 0 v 31 c = A 31 c := by simp [up_rd, q]
    rw [e1, e2]
    exact h c hc
theorem L30_dlA {A : MI} {n : Nat} {ld : Int32} {x : Msg} (hn : n ≤ 32) (hx : VMsg n x) (h : L30 A) : L30 (dlA A n ld x) := by
  by_cases h1 : x 0 = 1
  · unfold dlA
    rw [if_pos h1]
    unfold anA
    split
    · rename_i q
      have h4 : ∃ a, a < n ∧ x 4 = nI a := by
        rcases hx with ⟨h0, -⟩ | ⟨h0, c, hc, hx1, hk⟩ | ⟨h0, -⟩ | ⟨h0, -⟩
        · rw [h0] at h1; exact absurd h1 (by decide)
        · rcases hk with hk | ⟨-, a, ha, e⟩
          · rw [hk] at q; exact absurd q.2 (by decide)
          · exact ⟨a, ha, e⟩
        · rw [h0] at h1; exact absurd h1 (by decide)
        · rcases h0 with h0 | h0 <;> (rw [h0] at h1; exact absurd h1 (by decide))
      obtain ⟨a, ha, e4⟩ := h4
      exact L30_an h (by omega) e4
    · exact h
  · exact L30_r3 h (R3_dlA (R3.refl A) h1)
theorem caR_stay2 (n : Nat) (ld : Int32) (hn : n ≤ 32) (T : List Msg) : ∀ (A : MI) (N : List Msg), NV n T → NK N → K10 A → L30 A → NK (caR n ld T A N).2 ∧ K10 (caR n ld T A N).1 ∧ L30 (caR n ld T A N).1 := by
  induction T with
  | nil => intro A N _ h2 h3 h4; exact ⟨h2, h3, h4⟩
  | cons x T ih => intro A N h1 h2 h3 h4; exact ih _ _ (fun y hy => h1 y (List.mem_cons_of_mem _ hy)) (NK_dlN h3 h2) (K1_dlA (K1.refl A) h3) (L30_dlA hn (h1 x List.mem_cons_self) h4)
def tkn (D : MI) (j : Nat) (D1 : MI) : Prop := (∀ i, i < j → D1 73 i = D 72 i) ∧ ∀ col i, col ≠ 73 → D1 col i = D col i
theorem tkn_s {D D1 : MI} {j : Nat} (h : tkn D j D1) : tkn D (j + 1) (up D1 73 j (D1 72 j)) := by
  refine ⟨fun w hw => ?_, fun col i hc => ?_⟩
  · rw [up_rd]
    split
    · rename_i q; rw [q.2]; exact h.2 72 j (by decide)
    · exact h.1 w (by omega)
  · rw [up_c _ _ hc]
    exact h.2 col i hc
theorem d_Mod_carryAll_0 : decode b_Mod_carryAll 0 = .ok (.aload_n 0, 1) := by decide +kernel
theorem d_Mod_carryAll_1 : decode b_Mod_carryAll 1 = .ok (.iconst 0, 1) := by decide +kernel
theorem d_Mod_carryAll_2 : decode b_Mod_carryAll 2 = .ok (.putfield 108, 3) := by decide +kernel
theorem d_Mod_carryAll_5 : decode b_Mod_carryAll 5 = .ok (.aload_n 0, 1) := by decide +kernel
theorem d_Mod_carryAll_6 : decode b_Mod_carryAll 6 = .ok (.getfield 114, 3) := by decide +kernel
theorem d_Mod_carryAll_9 : decode b_Mod_carryAll 9 = .ok (.istore_n 1, 1) := by decide +kernel
theorem d_Mod_carryAll_10 : decode b_Mod_carryAll 10 = .ok (.iconst 0, 1) := by decide +kernel
theorem d_Mod_carryAll_11 : decode b_Mod_carryAll 11 = .ok (.istore_n 2, 1) := by decide +kernel
theorem d_Mod_carryAll_12 : decode b_Mod_carryAll 12 = .ok (.iload_n 2, 1) := by decide +kernel
theorem d_Mod_carryAll_13 : decode b_Mod_carryAll 13 = .ok (.bipush 14, 2) := by decide +kernel
theorem d_Mod_carryAll_15 : decode b_Mod_carryAll 15 = .ok (.iload_n 1, 1) := by decide +kernel
theorem d_Mod_carryAll_16 : decode b_Mod_carryAll 16 = .ok (.imul, 1) := by decide +kernel
theorem d_Mod_carryAll_17 : decode b_Mod_carryAll 17 = .ok (.if_icmp .ge 21, 3) := by decide +kernel
theorem d_Mod_carryAll_20 : decode b_Mod_carryAll 20 = .ok (.aload_n 0, 1) := by decide +kernel
theorem d_Mod_carryAll_21 : decode b_Mod_carryAll 21 = .ok (.getfield 89, 3) := by decide +kernel
theorem d_Mod_carryAll_24 : decode b_Mod_carryAll 24 = .ok (.iload_n 2, 1) := by decide +kernel
theorem d_Mod_carryAll_25 : decode b_Mod_carryAll 25 = .ok (.aload_n 0, 1) := by decide +kernel
theorem d_Mod_carryAll_26 : decode b_Mod_carryAll 26 = .ok (.getfield 86, 3) := by decide +kernel
theorem d_Mod_carryAll_29 : decode b_Mod_carryAll 29 = .ok (.iload_n 2, 1) := by decide +kernel
theorem d_Mod_carryAll_30 : decode b_Mod_carryAll 30 = .ok (.iaload, 1) := by decide +kernel
theorem d_Mod_carryAll_31 : decode b_Mod_carryAll 31 = .ok (.iastore, 1) := by decide +kernel
theorem d_Mod_carryAll_32 : decode b_Mod_carryAll 32 = .ok (.iinc 2 1, 3) := by decide +kernel
theorem d_Mod_carryAll_35 : decode b_Mod_carryAll 35 = .ok (.goto (-23), 3) := by decide +kernel
theorem d_Mod_carryAll_38 : decode b_Mod_carryAll 38 = .ok (.aload_n 0, 1) := by decide +kernel
theorem d_Mod_carryAll_39 : decode b_Mod_carryAll 39 = .ok (.iconst 0, 1) := by decide +kernel
theorem d_Mod_carryAll_40 : decode b_Mod_carryAll 40 = .ok (.putfield 114, 3) := by decide +kernel
theorem d_Mod_carryAll_43 : decode b_Mod_carryAll 43 = .ok (.iconst 0, 1) := by decide +kernel
theorem d_Mod_carryAll_44 : decode b_Mod_carryAll 44 = .ok (.istore_n 2, 1) := by decide +kernel
theorem d_Mod_carryAll_45 : decode b_Mod_carryAll 45 = .ok (.iload_n 2, 1) := by decide +kernel
theorem d_Mod_carryAll_46 : decode b_Mod_carryAll 46 = .ok (.iload_n 1, 1) := by decide +kernel
theorem d_Mod_carryAll_47 : decode b_Mod_carryAll 47 = .ok (.if_icmp .ge 49, 3) := by decide +kernel
theorem d_Mod_carryAll_50 : decode b_Mod_carryAll 50 = .ok (.iconst 0, 1) := by decide +kernel
theorem d_Mod_carryAll_51 : decode b_Mod_carryAll 51 = .ok (.istore_n 3, 1) := by decide +kernel
theorem d_Mod_carryAll_52 : decode b_Mod_carryAll 52 = .ok (.iload_n 3, 1) := by decide +kernel
theorem d_Mod_carryAll_53 : decode b_Mod_carryAll 53 = .ok (.bipush 14, 2) := by decide +kernel
theorem d_Mod_carryAll_55 : decode b_Mod_carryAll 55 = .ok (.if_icmp .ge 26, 3) := by decide +kernel
theorem d_Mod_carryAll_58 : decode b_Mod_carryAll 58 = .ok (.aload_n 0, 1) := by decide +kernel
theorem d_Mod_carryAll_59 : decode b_Mod_carryAll 59 = .ok (.getfield 95, 3) := by decide +kernel
theorem d_Mod_carryAll_62 : decode b_Mod_carryAll 62 = .ok (.iload_n 3, 1) := by decide +kernel
theorem d_Mod_carryAll_63 : decode b_Mod_carryAll 63 = .ok (.aload_n 0, 1) := by decide +kernel
theorem d_Mod_carryAll_64 : decode b_Mod_carryAll 64 = .ok (.getfield 89, 3) := by decide +kernel
theorem d_Mod_carryAll_67 : decode b_Mod_carryAll 67 = .ok (.bipush 14, 2) := by decide +kernel
theorem d_Mod_carryAll_69 : decode b_Mod_carryAll 69 = .ok (.iload_n 2, 1) := by decide +kernel
theorem d_Mod_carryAll_70 : decode b_Mod_carryAll 70 = .ok (.imul, 1) := by decide +kernel
theorem d_Mod_carryAll_71 : decode b_Mod_carryAll 71 = .ok (.iload_n 3, 1) := by decide +kernel
theorem d_Mod_carryAll_72 : decode b_Mod_carryAll 72 = .ok (.iadd, 1) := by decide +kernel
theorem d_Mod_carryAll_73 : decode b_Mod_carryAll 73 = .ok (.iaload, 1) := by decide +kernel
theorem d_Mod_carryAll_74 : decode b_Mod_carryAll 74 = .ok (.iastore, 1) := by decide +kernel
theorem d_Mod_carryAll_75 : decode b_Mod_carryAll 75 = .ok (.iinc 3 1, 3) := by decide +kernel
theorem d_Mod_carryAll_78 : decode b_Mod_carryAll 78 = .ok (.goto (-26), 3) := by decide +kernel
theorem d_Mod_carryAll_81 : decode b_Mod_carryAll 81 = .ok (.aload_n 0, 1) := by decide +kernel
theorem d_Mod_carryAll_82 : decode b_Mod_carryAll 82 = .ok (.aload_n 0, 1) := by decide +kernel
theorem d_Mod_carryAll_83 : decode b_Mod_carryAll 83 = .ok (.getfield 95, 3) := by decide +kernel
theorem d_Mod_carryAll_86 : decode b_Mod_carryAll 86 = .ok (.invokevirtual 219, 3) := by decide +kernel
theorem d_Mod_carryAll_89 : decode b_Mod_carryAll 89 = .ok (.istore_n 3, 1) := by decide +kernel
theorem d_Mod_carryAll_90 : decode b_Mod_carryAll 90 = .ok (.iinc 2 1, 3) := by decide +kernel
theorem d_Mod_carryAll_93 : decode b_Mod_carryAll 93 = .ok (.goto (-48), 3) := by decide +kernel
theorem d_Mod_carryAll_96 : decode b_Mod_carryAll 96 = .ok (.iload_n 1, 1) := by decide +kernel
theorem d_Mod_carryAll_97 : decode b_Mod_carryAll 97 = .ok (.ireturn, 1) := by decide +kernel
set_option maxRecDepth 100000 in
set_option maxHeartbeats 4000000 in
theorem c_Mod_carryAll (l : Launch) (K : Kx) (V : Vx) (A B C D : MI) (P : MP) (ms : MSt K V P) (N : List Msg) (hm : MN D N) (n : Nat) (ld sk : Int32) (hf : MF C n ld sk) (hvm : NV n N) (hnk : NK N) (z0 : Zc C) (h30 : L30 C) : Ct l K md_Mod_carryAll (6, 150) 0 0 [.ref (K.ad 6 0)] V (bk4 A B C D) P (MRp V A B P (some (.int (nI N.length))) (caR n ld N C []).1 0 (caR n ld N C []).2) := by
  refine ct_of [(0, .ref (K.ad 6 0))] (by decide) (Nat.le_of_ble_eq_true rfl) (ca_r ca_n) rfl ?_
  intro X hl hX
  have h : OkX X b_Mod_carryAll R_Mod K := hX.1
  have hN : X.nL = 4 := hX.2.1
  have hmv := ms.1
  have hn32 := hf.1
  have hm3 := hm.1
  have hL : ∀ (k p : Nat) (C1 D1 : MI) (N1 : List Msg), p + k = N.length → (∀ i, i < 14 * N.length → D1 73 i = D 72 i) ∧ D1 70 0 = 0 ∧ MN D1 N1 ∧ caR n ld N C [] = caR n ld (N.drop p) C1 N1 ∧ MF C1 n ld sk ∧ Zc C1 ∧ L30 C1 → J X K V (bk4 A B C1 D1) P 0 0 45 [(0, .ref (K.ad 6 0)), (1, .int (nI N.length)), (2, .int (nI p))] [] := by
    intro k
    induction k with
    | zero =>
      intro p C1 D1 N1 hi hv
      have hi2 : N.length = p := by omega
      subst hi2
      refine j_iload_n h d_Mod_carryAll_45 rfl ?_
      refine j_iload_n h d_Mod_carryAll_46 rfl ?_
      refine j_ic_ge (tgt := 96) h d_Mod_carryAll_47 (by decide) (fun _ => ?_) (fun c => absurd (nI_le (Nat.le_refl _) (by omega)) c)
      rw [List.drop_length] at hv
      refine j_iload_n h d_Mod_carryAll_96 rfl ?_
      exact j_iret hX d_Mod_carryAll_97 rfl (Nat.le_refl _) (Nat.le_refl _) ⟨rfl, rfl, rfl, D1, by rw [hv.2.2.2.1]; rfl, hv.2.1, by rw [hv.2.2.2.1]; exact hv.2.2.1⟩
    | succ k ih =>
      intro p C1 D1 N1 hi hv
      have hi2 : p < N.length := by omega
      have hv2 := hv
      obtain ⟨x, hx⟩ : ∃ x, N[p]? = some x := ⟨_, List.getElem?_eq_getElem hi2⟩
      refine j_iload_n h d_Mod_carryAll_45 rfl ?_
      refine j_iload_n h d_Mod_carryAll_46 rfl ?_
      refine j_ic_ge (tgt := 96) h d_Mod_carryAll_47 (by decide) (fun c => absurd c (nI_ge hi2 (by omega))) (fun _ => ?_)
      have hLj : ∀ (kq j : Nat) (D2 : MI), j + kq = 14 → rdg D1 x j D2 → J X K V (bk4 A B C1 D2) P 0 0 52 [(0, .ref (K.ad 6 0)), (1, .int (nI N.length)), (2, .int (nI p)), (3, .int (nI j))] [] := by
        intro kq
        induction kq with
        | zero =>
          intro j D2 hi hv
          have hi2 : 14 = j := by omega
          subst hi2
          refine j_iload_n h d_Mod_carryAll_52 rfl ?_
          refine j_bipush (v := 14) h d_Mod_carryAll_53 (by decide) ?_
          refine j_ic_ge (tgt := 81) h d_Mod_carryAll_55 (by decide) (fun _ => ?_) (fun c => absurd (nI_le (Nat.le_refl _) (by decide)) c)
          refine j_aload_n h d_Mod_carryAll_81 rfl ?_
          refine j_aload_n h d_Mod_carryAll_82 rfl ?_
          refine j_getR h d_Mod_carryAll_83 fl_Mod_95 rfl (by assumption) (mP ms (a := 38) (by decide)) ?_
          refine j_callV h (c_Mod_hears _ _ _ _ _ _ _ _ ms _ _ _ hv2.2.2.2.2.1 _ (MN_r hv2.2.2.1 hv.2) x hv.1 (hvm x (List.mem_of_getElem? hx)) (hnk x (List.mem_of_getElem? hx)) (fun c hc => (hv2.2.2.2.2.2.2 c hc).1) hv2.2.2.2.2.2.1) d_Mod_carryAll_86 ml_Mod_219 mv_Mod_hears (by assumption) ⟨rfl, rfl⟩ rfl rfl (Nat.le_of_ble_eq_true rfl) (hR_of hX (by decide) (by decide)) (hf_of hX (by decide) (by decide)) ?_
          rintro V3 _ _ P3 ⟨rfl, rfl, rfl, D3, rfl, hq3, hm3⟩
          refine j_istore_n h d_Mod_carryAll_89 (Nat.lt_of_lt_of_eq (m := 4) (by decide) hN.symm) ?_
          refine j_iinc (v := nI (p + 1)) h d_Mod_carryAll_90 rfl (nI_i p) (Nat.lt_of_lt_of_eq (m := 4) (by decide) hN.symm) ?_
          refine j_goto (tgt := 45) h d_Mod_carryAll_93 (by decide) ?_
          refine j_lv (lv' := [(0, .ref (K.ad 6 0)), (1, .int (nI N.length)), (2, .int (nI (p + 1)))]) (lvs rfl (lvs rfl (lvs rfl lvs0))) ?_
          exact ih (p + 1) _ _ _ (by omega) ⟨fun i hi9 => (hq3 73 i (by decide)).trans ((hv.2 73 i (by decide)).trans (hv2.1 i hi9)), (hq3 70 0 (by decide)).trans ((hv.2 70 0 (by decide)).trans hv2.2.1), hm3, hv2.2.2.2.1.trans (caR_drop hx), MF_zk hv2.2.2.2.2.1 (ZK_dlA (ZK.refl C1)), (ZK_dlA (ZK.refl C1)).1 hv2.2.2.2.2.2.1, L30_dlA hn32 (hvm x (List.mem_of_getElem? hx)) hv2.2.2.2.2.2.2⟩
        | succ kq ihj =>
          intro j D2 hi hv
          have hi2 : j < 14 := by omega
          refine j_iload_n h d_Mod_carryAll_52 rfl ?_
          refine j_bipush (v := 14) h d_Mod_carryAll_53 (by decide) ?_
          refine j_ic_ge (tgt := 81) h d_Mod_carryAll_55 (by decide) (fun c => absurd c (nI_ge hi2 (by decide))) (fun _ => ?_)
          refine j_aload_n h d_Mod_carryAll_58 rfl ?_
          refine j_getR h d_Mod_carryAll_59 fl_Mod_95 rfl (by assumption) (mP ms (a := 38) (by decide)) ?_
          refine j_iload_n h d_Mod_carryAll_62 rfl ?_
          refine j_aload_n h d_Mod_carryAll_63 rfl ?_
          refine j_getR h d_Mod_carryAll_64 fl_Mod_89 rfl (by assumption) (mP ms (a := 36) (by decide)) ?_
          refine j_bipush (v := 14) h d_Mod_carryAll_67 (by decide) ?_
          refine j_iload_n h d_Mod_carryAll_69 rfl ?_
          refine j_imul h d_Mod_carryAll_70 ?_
          refine j_iload_n h d_Mod_carryAll_71 rfl ?_
          refine j_ix14 (s := p) (a := j) h d_Mod_carryAll_72 ?_
          refine m_iald3 (a := 36) (L := 4200) (j := (14 * p + j)) h ms d_Mod_carryAll_73 (by decide) rfl (by decide) rfl rfl (by omega) ?_
          refine m_iast3 (a := 38) (L := 14) (j := j) h ms d_Mod_carryAll_74 (by decide) rfl (by decide) rfl rfl (by omega) ?_
          refine j_iinc (v := nI (j + 1)) h d_Mod_carryAll_75 rfl (nI_i j) (Nat.lt_of_lt_of_eq (m := 4) (by decide) hN.symm) ?_
          refine j_goto (tgt := 52) h d_Mod_carryAll_78 (by decide) ?_
          refine j_lv (lv' := [(0, .ref (K.ad 6 0)), (1, .int (nI N.length)), (2, .int (nI p)), (3, .int (nI (j + 1)))]) (lvs rfl (lvs rfl (lvs rfl (lvs rfl lvs0)))) ?_
          exact ihj (j + 1) _ (by omega) (rdg_s hv ((hv.2 73 _ (by decide)).trans ((hv2.1 (14 * p + j) (by omega)).trans (hm.2.2 p x hx j (by omega)))))
      refine j_iconst (v := 0) h d_Mod_carryAll_50 (by decide) ?_
      refine j_istore_n h d_Mod_carryAll_51 (Nat.lt_of_lt_of_eq (m := 4) (by decide) hN.symm) ?_
      refine j_lv (lv' := [(0, .ref (K.ad 6 0)), (1, .int (nI N.length)), (2, .int (nI p)), (3, .int (nI 0))]) (lvs rfl (lvs rfl (lvs rfl (lvs rfl lvs0)))) ?_
      exact hLj 14 0 D1 (by omega) ⟨fun _ q => absurd q (by omega), fun _ _ _ => rfl⟩
  have hL1 : ∀ (k j : Nat) (D1 : MI), j + k = 14 * N.length → tkn (up D 70 0 0) j D1 → J X K V (bk4 A B C D1) P 0 0 12 [(0, .ref (K.ad 6 0)), (1, .int (nI N.length)), (2, .int (nI j))] [] := by
    intro k
    induction k with
    | zero =>
      intro j D1 hi hv
      have hi2 : 14 * N.length = j := by omega
      subst hi2
      refine j_iload_n h d_Mod_carryAll_12 rfl ?_
      refine j_bipush (v := 14) h d_Mod_carryAll_13 (by decide) ?_
      refine j_iload_n h d_Mod_carryAll_15 rfl ?_
      refine j_ml14 h d_Mod_carryAll_16 ?_
      refine j_ic_ge (tgt := 38) h d_Mod_carryAll_17 (by decide) (fun _ => ?_) (fun c => absurd (nI_le (Nat.le_refl _) (by omega)) c)
      refine j_aload_n h d_Mod_carryAll_38 rfl ?_
      refine j_iconst (v := 0) h d_Mod_carryAll_39 (by decide) ?_
      refine j_put3 h d_Mod_carryAll_40 fw_Mod_114 rfl rfl (by assumption) ?_
      refine j_iconst (v := 0) h d_Mod_carryAll_43 (by decide) ?_
      refine j_istore_n h d_Mod_carryAll_44 (Nat.lt_of_lt_of_eq (m := 4) (by decide) hN.symm) ?_
      refine j_lv (lv' := [(0, .ref (K.ad 6 0)), (1, .int (nI N.length)), (2, .int (nI 0))]) (lvs rfl (lvs rfl (lvs rfl lvs0))) ?_
      exact hL N.length 0 C _ [] (by omega) ⟨fun i hi9 => hv.1 i hi9, hv.2 70 0 (by decide), ⟨by decide, rfl, fun k x q => by simp at q⟩, rfl, hf, z0, h30⟩
    | succ k ih =>
      intro j D1 hi hv
      have hi2 : j < 14 * N.length := by omega
      refine j_iload_n h d_Mod_carryAll_12 rfl ?_
      refine j_bipush (v := 14) h d_Mod_carryAll_13 (by decide) ?_
      refine j_iload_n h d_Mod_carryAll_15 rfl ?_
      refine j_ml14 h d_Mod_carryAll_16 ?_
      refine j_ic_ge (tgt := 38) h d_Mod_carryAll_17 (by decide) (fun c => absurd c (nI_ge hi2 (by omega))) (fun _ => ?_)
      refine j_aload_n h d_Mod_carryAll_20 rfl ?_
      refine j_getR h d_Mod_carryAll_21 fl_Mod_89 rfl (by assumption) (mP ms (a := 36) (by decide)) ?_
      refine j_iload_n h d_Mod_carryAll_24 rfl ?_
      refine j_aload_n h d_Mod_carryAll_25 rfl ?_
      refine j_getR h d_Mod_carryAll_26 fl_Mod_86 rfl (by assumption) (mP ms (a := 35) (by decide)) ?_
      refine j_iload_n h d_Mod_carryAll_29 rfl ?_
      refine m_iald3 (a := 35) (L := 4200) (j := j) h ms d_Mod_carryAll_30 (by decide) rfl (by decide) rfl rfl (by omega) ?_
      refine m_iast3 (a := 36) (L := 4200) (j := j) h ms d_Mod_carryAll_31 (by decide) rfl (by decide) rfl rfl (by omega) ?_
      refine j_iinc (v := nI (j + 1)) h d_Mod_carryAll_32 rfl (nI_i j) (Nat.lt_of_lt_of_eq (m := 4) (by decide) hN.symm) ?_
      refine j_goto (tgt := 12) h d_Mod_carryAll_35 (by decide) ?_
      refine j_lv (lv' := [(0, .ref (K.ad 6 0)), (1, .int (nI N.length)), (2, .int (nI (j + 1)))]) (lvs rfl (lvs rfl (lvs rfl lvs0))) ?_
      exact ih (j + 1) _ (by omega) (tkn_s hv)
  refine j_aload_n h d_Mod_carryAll_0 rfl ?_
  refine j_iconst (v := 0) h d_Mod_carryAll_1 (by decide) ?_
  refine j_put3 h d_Mod_carryAll_2 fw_Mod_108 rfl rfl (by assumption) ?_
  refine j_aload_n h d_Mod_carryAll_5 rfl ?_
  refine j_get3e (v := nI N.length) h d_Mod_carryAll_6 fl_Mod_114 rfl (by assumption) ((up_c _ _ (by decide)).trans hm.2.1) ?_
  refine j_istore_n h d_Mod_carryAll_9 (Nat.lt_of_lt_of_eq (m := 4) (by decide) hN.symm) ?_
  refine j_iconst (v := 0) h d_Mod_carryAll_10 (by decide) ?_
  refine j_istore_n h d_Mod_carryAll_11 (Nat.lt_of_lt_of_eq (m := 4) (by decide) hN.symm) ?_
  refine j_lv (lv' := [(0, .ref (K.ad 6 0)), (1, .int (nI N.length)), (2, .int (nI 0))]) (lvs rfl (lvs rfl (lvs rfl lvs0))) ?_
  exact hL1 (14 * N.length) 0 _ (by omega) ⟨fun _ q => absurd q (by omega), fun _ _ _ => rfl⟩
