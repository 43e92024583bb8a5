/-! the net: a ring of messages -/
abbrev Msg : Type := Nat → Int32
/-- the ring: array t is the ring, g u j the message at place j of array u, f the first place, c how many -/
def RG (K : Kx) (P : MP) (B : MI) (t : Nat) (g : Nat → Nat → Nat) (f c : Nat) : Prop :=
  t < 2 ∧ f < 300 ∧ c ≤ 300 ∧ B 70 0 = nI f ∧ B 72 0 = nI c ∧ P 5 0 = some (K.aad (4 + t)) ∧ P 6 0 = some (K.aad (5 - t)) ∧
  (∀ u j, u < 2 → j < 300 → P (14 + u) j = some (K.ad 5 (g u j)) ∧ g u j < 600) ∧ ∀ u j u' j', u < 2 → j < 300 → u' < 2 → j' < 300 → g u j = g u' j' → u = u' ∧ j = j'
/-- the message q says x -/
def CM (B : MI) (q : Nat) (x : Msg) : Prop := (∀ w, w < 7 → B (80 + w) q = x w) ∧ (x 0 = 3 → ∀ w, w < 14 → B (80 + w) q = x w) ∧ (x 0 = 4 → B 87 q = x 7 ∧ B 94 q = x 8)
/-- what the two servers are -/
def KB (B : MI) (ld sk : Int32) : Prop := ∀ s, s < 2 → B 60 s = nI s ∧ B 61 s = nI (1 - s) ∧ B 62 s = ld ∧ B 63 s = sk
def NCw (K : Kx) (P : MP) (B : MI) (N T : List Msg) (U : Msg) (t : Nat) (g : Nat → Nat → Nat) (f ft : Nat) : Prop :=
  RG K P B t g f N.length ∧ (∀ k x, N[k]? = some x → CM B (g t ((f + k) % 300)) x) ∧ B 71 0 = nI ft ∧ ft < 300 ∧ (∀ k x, T[k]? = some x → k < 300 ∧ CM B (g (1 - t) ((ft + k) % 300)) x) ∧ CM B 600 U ∧ ∀ q, q < 601 → B 91 q = 0 ∨ B 91 q = 1
def NC (K : Kx) (P : MP) (B : MI) (ld sk : Int32) (N T : List Msg) (U : Msg) : Prop := KB B ld sk ∧ ∃ t g f ft, NCw K P B N T U t g f ft
def netput (x : Msg) (N : List Msg) : List Msg := if N.length = 300 then N.tail ++ [x] else N ++ [x]
def NP (K : Kx) (V : Vx) (C D : MI) (P : MP) (ld sk : Int32) (r : Option Value) (A : MI) (N T : List Msg) (U : Msg) : Px := fun V' r' I' P' => V' = V ∧ r' = r ∧ P' = P ∧ ∃ B, I' = bk4 A B C D ∧ NC K P B ld sk N T U
theorem rem300 {a : Nat} (h : a < 2 ^ 31) : nI a - nI a / 300 * 300 = nI (a % 300) := pk_rem (d := 300) h (by decide) (by decide)
section JN
variable {X : Jx} {cc : ByteArray} {own : String} {K : Kx} {V : Vx} {I : MI3} {P : MP} {cells slots pc : Nat} {lv : List (Nat × Value)} {st : List Value} {n : Nat}
theorem ai_msg {t : Nat} (h : t < 2) : ainf (4 + t) = (2, 9, 14 + t) ∧ aty (4 + t) = 6 := by
  rcases (show t = 0 ∨ t = 1 by omega) with rfl | rfl <;> exact ⟨rfl, rfl⟩
theorem cs_ml (c : CS K V P n) {t : Nat} (h : t < 2) : K.alen (4 + t) = 300 := by
  rcases (show t = 0 ∨ t = 1 by omega) with rfl | rfl
  · exact c.2.1.2.2.2.2.2.1
  · exact c.2.1.2.2.2.2.2.2
theorem j_ring (h : OkX X cc own K) (cs : CS K V P n) {t j q : Nat} {x : Int32} (ht : t < 2) (hx : x = nI j) (hj : j < 300) (hp : P (14 + t) j = some q) (d : decode cc pc = .ok (.aaload, 1)) (kk : J X K V I P cells slots (pc + 1) lv (.ref q :: st)) : J X K V I P cells slots pc lv (.int x :: .ref (K.aad (4 + t)) :: st) :=
  j_aald (C := "LeasePair$Message") h d (ai_msg ht).1 ⟨by rw [(ai_msg ht).2]; rfl, by rw [(ai_msg ht).2]; decide⟩ (cs_av cs (by omega)) hx (by rw [cs_ml cs ht]; exact hj) (by rw [cs_ml cs ht]; decide) hp kk
end JN
theorem d_Net_at_0 : decode b_Net_at 0 = .ok (.aload_n 0, 1) := by decide +kernel
theorem d_Net_at_1 : decode b_Net_at 1 = .ok (.getfield 11, 3) := by decide +kernel
theorem d_Net_at_4 : decode b_Net_at 4 = .ok (.aload_n 0, 1) := by decide +kernel
theorem d_Net_at_5 : decode b_Net_at 5 = .ok (.getfield 29, 3) := by decide +kernel
theorem d_Net_at_8 : decode b_Net_at 8 = .ok (.iload_n 1, 1) := by decide +kernel
theorem d_Net_at_9 : decode b_Net_at 9 = .ok (.iadd, 1) := by decide +kernel
theorem d_Net_at_10 : decode b_Net_at 10 = .ok (.sipush 300, 3) := by decide +kernel
theorem d_Net_at_13 : decode b_Net_at 13 = .ok (.irem, 1) := by decide +kernel
theorem d_Net_at_14 : decode b_Net_at 14 = .ok (.aaload, 1) := by decide +kernel
theorem d_Net_at_15 : decode b_Net_at 15 = .ok (.areturn, 1) := by decide +kernel
set_option maxRecDepth 100000 in
set_option maxHeartbeats 4000000 in
theorem c_Net_at (l : Launch) (K : Kx) (V : Vx) (A B C D : MI) (P : MP) (n : Nat) (cs : CS K V P n) (t : Nat) (g : Nat → Nat → Nat) (f c : Nat) (rg : RG K P B t g f c) (k : Nat) (hk : k < 300) : Ct l K md_Net_at (0, 0) 0 0 [.ref (K.ad 4 0), .int (nI k)] V (bk4 A B C D) P (EQ V (some (.ref (K.ad 5 (g t ((f + k) % 300))))) (bk4 A B C D) P) := by
  refine ct_of [(0, .ref (K.ad 4 0)), (1, .int (nI k))] (by decide) (Nat.le_of_ble_eq_true rfl) (ca_r (ca_i ca_n)) rfl ?_
  intro X hl hX
  have h : OkX X b_Net_at R_Net K := hX.1
  have hN : X.nL = 2 := hX.2.1
  have hnv := cs_nv cs
  obtain ⟨ht, hf, hc, b70, b72, p5, p6, hg, hgi⟩ := id rg
  refine j_aload_n h d_Net_at_0 rfl ?_
  refine j_getR h d_Net_at_1 fl_Net_11 rfl (by assumption) p5 ?_
  refine j_aload_n h d_Net_at_4 rfl ?_
  refine j_get1e h d_Net_at_5 fl_Net_29 rfl (by assumption) b70 ?_
  refine j_iload_n h d_Net_at_8 rfl ?_
  refine j_iadd h d_Net_at_9 ?_
  refine j_sipush (v := 300) h d_Net_at_10 (by decide) ?_
  refine j_irem h d_Net_at_13 (by decide) ?_
  refine j_ring h cs ht (by rw [nI_add]; exact rem300 (by omega)) (Nat.mod_lt _ (by decide)) (hg t ((f + k) % 300) ht (Nat.mod_lt _ (by decide))).1 d_Net_at_14 ?_
  exact j_aret hX d_Net_at_15 rfl (Nat.le_refl _) (Nat.le_refl _) ⟨rfl, rfl, rfl, rfl⟩
theorem d_Net_takenAt_0 : decode b_Net_takenAt 0 = .ok (.aload_n 0, 1) := by decide +kernel
theorem d_Net_takenAt_1 : decode b_Net_takenAt 1 = .ok (.getfield 17, 3) := by decide +kernel
theorem d_Net_takenAt_4 : decode b_Net_takenAt 4 = .ok (.aload_n 0, 1) := by decide +kernel
theorem d_Net_takenAt_5 : decode b_Net_takenAt 5 = .ok (.getfield 32, 3) := by decide +kernel
theorem d_Net_takenAt_8 : decode b_Net_takenAt 8 = .ok (.iload_n 1, 1) := by decide +kernel
theorem d_Net_takenAt_9 : decode b_Net_takenAt 9 = .ok (.iadd, 1) := by decide +kernel
theorem d_Net_takenAt_10 : decode b_Net_takenAt 10 = .ok (.sipush 300, 3) := by decide +kernel
theorem d_Net_takenAt_13 : decode b_Net_takenAt 13 = .ok (.irem, 1) := by decide +kernel
theorem d_Net_takenAt_14 : decode b_Net_takenAt 14 = .ok (.aaload, 1) := by decide +kernel
theorem d_Net_takenAt_15 : decode b_Net_takenAt 15 = .ok (.areturn, 1) := by decide +kernel
set_option maxRecDepth 100000 in
set_option maxHeartbeats 4000000 in
theorem c_Net_takenAt (l : Launch) (K : Kx) (V : Vx) (A B C D : MI) (P : MP) (n : Nat) (cs : CS K V P n) (t : Nat) (g : Nat → Nat → Nat) (f c : Nat) (rg : RG K P B t g f c) (ft : Nat) (hft : ft < 300) (b71 : B 71 0 = nI ft) (k : Nat) (hk : k < 300) : Ct l K md_Net_takenAt (0, 0) 0 0 [.ref (K.ad 4 0), .int (nI k)] V (bk4 A B C D) P (EQ V (some (.ref (K.ad 5 (g (1 - t) ((ft + k) % 300))))) (bk4 A B C D) P) := by
  refine ct_of [(0, .ref (K.ad 4 0)), (1, .int (nI k))] (by decide) (Nat.le_of_ble_eq_true rfl) (ca_r (ca_i ca_n)) rfl ?_
  intro X hl hX
  have h : OkX X b_Net_takenAt R_Net K := hX.1
  have hN : X.nL = 2 := hX.2.1
  have hnv := cs_nv cs
  obtain ⟨ht, hf, hc, b70, b72, p5, p6, hg, hgi⟩ := id rg
  refine j_aload_n h d_Net_takenAt_0 rfl ?_
  refine j_getR h d_Net_takenAt_1 fl_Net_17 rfl (by assumption) (show P 6 0 = some (K.aad (4 + (1 - t))) by rw [p6]; congr 2; omega) ?_
  refine j_aload_n h d_Net_takenAt_4 rfl ?_
  refine j_get1e h d_Net_takenAt_5 fl_Net_32 rfl (by assumption) b71 ?_
  refine j_iload_n h d_Net_takenAt_8 rfl ?_
  refine j_iadd h d_Net_takenAt_9 ?_
  refine j_sipush (v := 300) h d_Net_takenAt_10 (by decide) ?_
  refine j_irem h d_Net_takenAt_13 (by decide) ?_
  refine j_ring h cs (show 1 - t < 2 by omega) (by rw [nI_add]; exact rem300 (by omega)) (Nat.mod_lt _ (by decide)) (hg (1 - t) ((ft + k) % 300) (by omega) (Nat.mod_lt _ (by decide))).1 d_Net_takenAt_14 ?_
  exact j_aret hX d_Net_takenAt_15 rfl (Nat.le_refl _) (Nat.le_refl _) ⟨rfl, rfl, rfl, rfl⟩
def adf (f c : Nat) : Nat := if c = 300 then (f + 1) % 300 else f
def adc (c : Nat) : Nat := if c = 300 then 300 else c + 1
def adq (g : Nat → Nat → Nat) (t f c : Nat) : Nat := g t ((adf f c + (adc c - 1)) % 300)
def adB (B : MI) (f c : Nat) : MI := if c = 300 then up B 70 0 (nI ((f + 1) % 300)) else up B 72 0 (nI (c + 1))
theorem adc_c {c : Nat} (h : c ≤ 300) : adc c ≤ 300 ∧ 1 ≤ adc c := by unfold adc; split <;> omega
theorem adf_f {f c : Nat} (h : f < 300) : adf f c < 300 := by unfold adf; split <;> omega
theorem RG_ad {K : Kx} {P : MP} {B : MI} {t f c : Nat} {g : Nat → Nat → Nat} (rg : RG K P B t g f c) : RG K P (adB B f c) t g (adf f c) (adc c) := by
  obtain ⟨ht, hf, hc, b70, b72, p5, p6, hg, hgi⟩ := rg
  refine ⟨ht, adf_f hf, (adc_c hc).1, ?_, ?_, p5, p6, hg, hgi⟩
  · unfold adB adf
    split
    · rfl
    · exact b70
  · unfold adB adc
    split
    · rename_i h; rw [h] at b72; exact b72
    · rfl
theorem d_Net_add_0 : decode b_Net_add 0 = .ok (.aload_n 0, 1) := by decide +kernel
theorem d_Net_add_1 : decode b_Net_add 1 = .ok (.getfield 21, 3) := by decide +kernel
theorem d_Net_add_4 : decode b_Net_add 4 = .ok (.sipush 300, 3) := by decide +kernel
theorem d_Net_add_7 : decode b_Net_add 7 = .ok (.if_icmp .ne 20, 3) := by decide +kernel
theorem d_Net_add_10 : decode b_Net_add 10 = .ok (.aload_n 0, 1) := by decide +kernel
theorem d_Net_add_11 : decode b_Net_add 11 = .ok (.aload_n 0, 1) := by decide +kernel
theorem d_Net_add_12 : decode b_Net_add 12 = .ok (.getfield 29, 3) := by decide +kernel
theorem d_Net_add_15 : decode b_Net_add 15 = .ok (.iconst 1, 1) := by decide +kernel
theorem d_Net_add_16 : decode b_Net_add 16 = .ok (.iadd, 1) := by decide +kernel
theorem d_Net_add_17 : decode b_Net_add 17 = .ok (.sipush 300, 3) := by decide +kernel
theorem d_Net_add_20 : decode b_Net_add 20 = .ok (.irem, 1) := by decide +kernel
theorem d_Net_add_21 : decode b_Net_add 21 = .ok (.putfield 29, 3) := by decide +kernel
theorem d_Net_add_24 : decode b_Net_add 24 = .ok (.goto 13, 3) := by decide +kernel
theorem d_Net_add_27 : decode b_Net_add 27 = .ok (.aload_n 0, 1) := by decide +kernel
theorem d_Net_add_28 : decode b_Net_add 28 = .ok (.dup, 1) := by decide +kernel
theorem d_Net_add_29 : decode b_Net_add 29 = .ok (.getfield 21, 3) := by decide +kernel
theorem d_Net_add_32 : decode b_Net_add 32 = .ok (.iconst 1, 1) := by decide +kernel
theorem d_Net_add_33 : decode b_Net_add 33 = .ok (.iadd, 1) := by decide +kernel
theorem d_Net_add_34 : decode b_Net_add 34 = .ok (.putfield 21, 3) := by decide +kernel
theorem d_Net_add_37 : decode b_Net_add 37 = .ok (.aload_n 0, 1) := by decide +kernel
theorem d_Net_add_38 : decode b_Net_add 38 = .ok (.aload_n 0, 1) := by decide +kernel
theorem d_Net_add_39 : decode b_Net_add 39 = .ok (.getfield 21, 3) := by decide +kernel
theorem d_Net_add_42 : decode b_Net_add 42 = .ok (.iconst 1, 1) := by decide +kernel
theorem d_Net_add_43 : decode b_Net_add 43 = .ok (.isub, 1) := by decide +kernel
theorem d_Net_add_44 : decode b_Net_add 44 = .ok (.invokevirtual 35, 3) := by decide +kernel
theorem d_Net_add_47 : decode b_Net_add 47 = .ok (.astore 4, 2) := by decide +kernel
theorem d_Net_add_49 : decode b_Net_add 49 = .ok (.aload 4, 2) := by decide +kernel
theorem d_Net_add_51 : decode b_Net_add 51 = .ok (.iload_n 1, 1) := by decide +kernel
theorem d_Net_add_52 : decode b_Net_add 52 = .ok (.iload_n 2, 1) := by decide +kernel
theorem d_Net_add_53 : decode b_Net_add 53 = .ok (.iload_n 3, 1) := by decide +kernel
theorem d_Net_add_54 : decode b_Net_add 54 = .ok (.invokevirtual 39, 3) := by decide +kernel
theorem d_Net_add_57 : decode b_Net_add 57 = .ok (.aload 4, 2) := by decide +kernel
theorem d_Net_add_59 : decode b_Net_add 59 = .ok (.areturn, 1) := by decide +kernel
set_option maxRecDepth 100000 in
set_option maxHeartbeats 4000000 in
theorem c_Net_add (l : Launch) (K : Kx) (V : Vx) (A B C D : MI) (P : MP) (n : Nat) (cs : CS K V P n) (t : Nat) (g : Nat → Nat → Nat) (f c : Nat) (rg : RG K P B t g f c) (ty sd rc : Int32) : Ct l K md_Net_add (1, 23) 0 0 [.ref (K.ad 4 0), .int ty, .int sd, .int rc] V (bk4 A B C D) P (EQ V (some (.ref (K.ad 5 (adq g t f c)))) (bk4 A (mBegin (adB B f c) (adq g t f c) ty sd rc) C D) P) := by
  refine ct_of [(0, .ref (K.ad 4 0)), (1, .int ty), (2, .int sd), (3, .int rc)] (by decide) (Nat.le_of_ble_eq_true rfl) (ca_r (ca_i (ca_i (ca_i ca_n)))) rfl ?_
  intro X hl hX
  have h : OkX X b_Net_add R_Net K := hX.1
  have hN : X.nL = 5 := hX.2.1
  have hnv := cs_nv cs
  obtain ⟨ht, hf, hc, b70, b72, p5, p6, hg, hgi⟩ := id rg
  refine j_aload_n h d_Net_add_0 rfl ?_
  refine j_get1e h d_Net_add_1 fl_Net_21 rfl (by assumption) b72 ?_
  refine j_sipush (v := 300) h d_Net_add_4 (by decide) ?_
  by_cases hcc : c = 300
  · refine j_ic_ne (tgt := 27) h d_Net_add_7 (by decide) (fun z => absurd (by rw [hcc]; rfl) z) (fun _ => ?_)
    refine j_aload_n h d_Net_add_10 rfl ?_
    refine j_aload_n h d_Net_add_11 rfl ?_
    refine j_get1e h d_Net_add_12 fl_Net_29 rfl (by assumption) b70 ?_
    refine j_iconst (v := 1) h d_Net_add_15 (by decide) ?_
    refine j_iadd h d_Net_add_16 ?_
    refine j_sipush (v := 300) h d_Net_add_17 (by decide) ?_
    refine j_irem h d_Net_add_20 (by decide) ?_
    rw [show nI f + 1 - (nI f + 1) / 300 * 300 = nI ((f + 1) % 300) from by rw [nI_1]; exact rem300 (by omega)]
    refine j_put1 h d_Net_add_21 fw_Net_29 rfl rfl (by assumption) ?_
    refine j_goto (tgt := 37) h d_Net_add_24 (by decide) ?_
    have hm1 : nI (adc c) - 1 = nI (adc c - 1) := by
      obtain ⟨z, hz⟩ : ∃ z, adc c = z + 1 := ⟨adc c - 1, by have := adc_c hc; omega⟩
      rw [hz]; exact nI_pred z
    have hqv : V.1 5 (adq g t f c) := cs_mv cs (Nat.lt_succ_of_lt (hg t _ ht (Nat.mod_lt _ (by decide))).2)
    refine j_eq (I' := bk4 A (adB B f c) C D) (by unfold adB; rw [if_pos hcc]) rfl rfl rfl ?_
    refine j_aload_n h d_Net_add_37 rfl ?_
    refine j_aload_n h d_Net_add_38 rfl ?_
    refine j_get1e (v := nI (adc c)) h d_Net_add_39 fl_Net_21 rfl (by assumption) (RG_ad rg).2.2.2.2.1 ?_
    refine j_iconst (v := 1) h d_Net_add_42 (by decide) ?_
    refine j_isub h d_Net_add_43 ?_
    rw [hm1]
    refine j_callV h (c_Net_at _ _ _ _ _ _ _ _ _ cs _ _ _ _ (RG_ad rg) (adc c - 1) (by have := adc_c hc; omega)) d_Net_add_44 ml_Net_35 mv_Net_at (by assumption) ⟨rfl, rfl⟩ rfl rfl (Nat.le_of_ble_eq_true rfl) (hR_of hX (by decide) (by decide)) (hf_of hX (by decide) (by decide)) ?_
    rintro _ _ _ _ ⟨rfl, rfl, rfl, rfl⟩
    refine j_astore h d_Net_add_47 (Nat.lt_of_lt_of_eq (m := 5) (by decide) hN.symm) ?_
    refine j_aload h d_Net_add_49 rfl ?_
    refine j_iload_n h d_Net_add_51 rfl ?_
    refine j_iload_n h d_Net_add_52 rfl ?_
    refine j_iload_n h d_Net_add_53 rfl ?_
    refine j_callV h (c_Msg_begin _ _ _ _ _ _ _ _ _ hqv _ _ _) d_Net_add_54 ml_Net_39 mv_Msg_begin (by assumption) ⟨rfl, rfl⟩ rfl rfl (Nat.le_of_ble_eq_true rfl) (hR_of hX (by decide) (by decide)) (hf_of hX (by decide) (by decide)) ?_
    rintro _ _ _ _ ⟨rfl, rfl, rfl, rfl⟩
    refine j_aload h d_Net_add_57 rfl ?_
    exact j_aret hX d_Net_add_59 rfl (Nat.le_refl _) (Nat.le_refl _) ⟨rfl, rfl, rfl, rfl⟩
  · have hne : ¬ nI c = 300 := fun z => hcc ((nI_eq (b := 300) (by omega) (by decide)).mp z)
    refine j_ic_ne (tgt := 27) h d_Net_add_7 (by decide) (fun _ => ?_) (fun z => absurd z hne)
    refine j_aload_n h d_Net_add_27 rfl ?_
    refine j_dup h d_Net_add_28 rfl ?_
    refine j_get1e h d_Net_add_29 fl_Net_21 rfl (by assumption) b72 ?_
    refine j_iconst (v := 1) h d_Net_add_32 (by decide) ?_
    refine j_iadd h d_Net_add_33 ?_
    rw [nI_1]
    refine j_put1 h d_Net_add_34 fw_Net_21 rfl rfl (by assumption) ?_
    have hm1 : nI (adc c) - 1 = nI (adc c - 1) := by
      obtain ⟨z, hz⟩ : ∃ z, adc c = z + 1 := ⟨adc c - 1, by have := adc_c hc; omega⟩
      rw [hz]; exact nI_pred z
    have hqv : V.1 5 (adq g t f c) := cs_mv cs (Nat.lt_succ_of_lt (hg t _ ht (Nat.mod_lt _ (by decide))).2)
    refine j_eq (I' := bk4 A (adB B f c) C D) (by unfold adB; rw [if_neg hcc]) rfl rfl rfl ?_
    refine j_aload_n h d_Net_add_37 rfl ?_
    refine j_aload_n h d_Net_add_38 rfl ?_
    refine j_get1e (v := nI (adc c)) h d_Net_add_39 fl_Net_21 rfl (by assumption) (RG_ad rg).2.2.2.2.1 ?_
    refine j_iconst (v := 1) h d_Net_add_42 (by decide) ?_
    refine j_isub h d_Net_add_43 ?_
    rw [hm1]
    refine j_callV h (c_Net_at _ _ _ _ _ _ _ _ _ cs _ _ _ _ (RG_ad rg) (adc c - 1) (by have := adc_c hc; omega)) d_Net_add_44 ml_Net_35 mv_Net_at (by assumption) ⟨rfl, rfl⟩ rfl rfl (Nat.le_of_ble_eq_true rfl) (hR_of hX (by decide) (by decide)) (hf_of hX (by decide) (by decide)) ?_
    rintro _ _ _ _ ⟨rfl, rfl, rfl, rfl⟩
    refine j_astore h d_Net_add_47 (Nat.lt_of_lt_of_eq (m := 5) (by decide) hN.symm) ?_
    refine j_aload h d_Net_add_49 rfl ?_
    refine j_iload_n h d_Net_add_51 rfl ?_
    refine j_iload_n h d_Net_add_52 rfl ?_
    refine j_iload_n h d_Net_add_53 rfl ?_
    refine j_callV h (c_Msg_begin _ _ _ _ _ _ _ _ _ hqv _ _ _) d_Net_add_54 ml_Net_39 mv_Msg_begin (by assumption) ⟨rfl, rfl⟩ rfl rfl (Nat.le_of_ble_eq_true rfl) (hR_of hX (by decide) (by decide)) (hf_of hX (by decide) (by decide)) ?_
    rintro _ _ _ _ ⟨rfl, rfl, rfl, rfl⟩
    refine j_aload h d_Net_add_57 rfl ?_
    exact j_aret hX d_Net_add_59 rfl (Nat.le_refl _) (Nat.le_refl _) ⟨rfl, rfl, rfl, rfl⟩
