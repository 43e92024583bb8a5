/-! the model: its net -/
/-- the model's net holds N -/
def MN (D : MI) (N : List Msg) : Prop := N.length ≤ 300 ∧ D 71 0 = nI N.length ∧ ∀ k x, N[k]? = some x → ∀ w, w < 14 → D 72 (14 * k + w) = x w
/-- only the columns of the net and of what is said have moved -/
def DK (D D' : MI) : Prop := ∀ col i, (col < 71 ∨ col = 73 ∨ 75 ≤ col) → D' col i = D col i
theorem DK.refl (D : MI) : DK D D := fun _ _ _ => rfl
theorem DK.trans {D D1 D2 : MI} (h : DK D D1) (g : DK D1 D2) : DK D D2 := fun c i k => (g c i k).trans (h c i k)
def MQ_ (V : Vx) (A B : MI) (P : MP) (r : Option Value) (C : MI) (D : MI) (N : List Msg) : Px := fun V' r' I' P' => V' = V ∧ r' = r ∧ P' = P ∧ ∃ D', I' = bk4 A B C D' ∧ DK D D' ∧ MN D' N
def DKn (D D' : MI) : Prop := ∀ col i, col ≠ 71 → col ≠ 72 → D' col i = D col i
theorem DKn.dk {D D' : MI} (h : DKn D D') : DK D D' := fun c i k => h c i (by omega) (by omega)
def MQn (V : Vx) (A B : MI) (P : MP) (r : Option Value) (C : MI) (D : MI) (N : List Msg) : Px := fun V' r' I' P' => V' = V ∧ r' = r ∧ P' = P ∧ ∃ D', I' = bk4 A B C D' ∧ DKn D D' ∧ MN D' N
theorem MN_k {D D' : MI} {N : List Msg} (h : MN D N) (e : ∀ col i, col ≠ 74 → D' col i = D col i) : MN D' N := ⟨h.1, (e _ _ (by decide)).trans h.2.1, fun k x hk w hw => (e _ _ (by decide)).trans (h.2.2 k x hk w hw)⟩
section JM2
variable {X : Jx} {cc : ByteArray} {own : String} {K : Kx} {V : Vx} {A B C D : MI} {P : MP} {cells slots pc : Nat} {lv : List (Nat × Value)} {st : List Value}
theorem j_ml14 (h : OkX X cc own K) {s : Nat} (d : decode cc pc = .ok (.imul, 1)) (k : J X K V (bk4 A B C D) P cells slots (pc + 1) lv (.int (nI (14 * s)) :: st)) : J X K V (bk4 A B C D) P cells slots pc lv (.int (nI s) :: .int 14 :: st) :=
  j_imul h d (by rw [nI_mul] at k; exact k)
theorem nI_subn {a b : Nat} (h : b ≤ a) : nI a - nI b = nI (a - b) := by
  have e : nI a = nI (a - b) + nI b := by rw [nI_add, Nat.sub_add_cancel h]
  rw [e]
  exact Int32.add_sub_cancel _ _
theorem j_sb14 (h : OkX X cc own K) {s : Nat} (hs : 14 ≤ s) (d : decode cc pc = .ok (.isub, 1)) (k : J X K V (bk4 A B C D) P cells slots (pc + 1) lv (.int (nI (s - 14)) :: st)) : J X K V (bk4 A B C D) P cells slots pc lv (.int 14 :: .int (nI s) :: st) :=
  j_isub h d (by rw [← nI_subn hs] at k; exact k)
theorem j_ad1 (h : OkX X cc own K) {s : Nat} (d : decode cc pc = .ok (.iadd, 1)) (k : J X K V (bk4 A B C D) P cells slots (pc + 1) lv (.int (nI (s + 1)) :: st)) : J X K V (bk4 A B C D) P cells slots pc lv (.int 1 :: .int (nI s) :: st) :=
  j_iadd h d (by rw [← nI_i] at k; exact k)
theorem j_sb1 (h : OkX X cc own K) {s : Nat} (hs : 1 ≤ s) (d : decode cc pc = .ok (.isub, 1)) (k : J X K V (bk4 A B C D) P cells slots (pc + 1) lv (.int (nI (s - 1)) :: st)) : J X K V (bk4 A B C D) P cells slots pc lv (.int 1 :: .int (nI s) :: st) :=
  j_isub h d (by rw [← nI_subn hs] at k; exact k)
end JM2
/-- a step of moving words to the front -/
def shf (D : MI) (p j : Nat) (D1 : MI) : Prop := (∀ i, D1 72 i = if p ≤ i ∧ i + 14 < j then D 72 (i + 14) else D 72 i) ∧ ∀ col i, col ≠ 72 → D1 col i = D col i
theorem shf_s {D D1 : MI} {p j : Nat} (h : shf D p j D1) (hj : p + 14 ≤ j) : shf D p (j + 1) (up D1 72 (j - 14) (D1 72 j)) := by
  refine ⟨fun i => ?_, fun col i hc => ?_⟩
  · rw [up_rd]
    split
    · rename_i e
      rw [if_pos (by omega), h.1 j, if_neg (by omega), show i + 14 = j by omega]
    · rename_i e
      rw [h.1 i]
      by_cases h1 : p ≤ i ∧ i + 14 < j
      · rw [if_pos h1, if_pos (by omega)]
      · rw [if_neg h1, if_neg (by
          intro z
          apply e
          refine ⟨rfl, ?_⟩
          omega)]
  · rw [up_rd, if_neg (fun z => hc z.1)]
    exact h.2 col i hc
theorem MN_rm {D D1 : MI} {N : List Msg} {pl : Nat} (h : MN D N) (hp : pl < N.length) (s : shf D (14 * pl) (14 * N.length) D1) : MN (up D1 71 0 (nI (N.length - 1))) (N.eraseIdx pl) := by
  have hl : (N.eraseIdx pl).length = N.length - 1 := by rw [List.length_eraseIdx, if_pos hp]
  obtain ⟨h1, h2, h3⟩ := h
  refine ⟨by omega, by rw [hl]; rfl, fun k x hk w hw => ?_⟩
  have hk2 := (List.getElem?_eq_some_iff.mp hk).1
  rw [hl] at hk2
  rw [up_c _ _ (by decide), s.1]
  rw [List.getElem?_eraseIdx] at hk
  split at hk
  · rename_i e
    rw [if_neg (by omega)]
    exact h3 k x hk w hw
  · rename_i e
    rw [if_pos (by omega), show 14 * k + w + 14 = 14 * (k + 1) + w by omega]
    exact h3 (k + 1) x hk w hw
/-- words set to 0, or to those said -/
def zer (D : MI) (j : Nat) (D1 : MI) : Prop := (∀ i, i < j → D1 74 i = 0) ∧ ∀ col i, col ≠ 74 → D1 col i = D col i
theorem zer_s {D D1 : MI} {j : Nat} (h : zer D j D1) : zer D (j + 1) (up D1 74 j 0) := by
  refine ⟨fun i hi => ?_, fun col i hc => ?_⟩
  · rw [up_rd]
    split
    · rfl
    · exact h.1 i (by omega)
  · rw [up_c _ _ hc]
    exact h.2 col i hc
def cpy (D : MI) (p j : Nat) (D1 : MI) : Prop := (∀ i, D1 72 i = if p ≤ i ∧ i < p + j then D 74 (i - p) else D 72 i) ∧ ∀ col i, col ≠ 72 → D1 col i = D col i
theorem cpy_s {D D1 : MI} {p j : Nat} (h : cpy D p j D1) : cpy D p (j + 1) (up D1 72 (p + j) (D1 74 j)) := by
  refine ⟨fun i => ?_, fun col i hc => ?_⟩
  · rw [up_rd]
    split
    · rename_i e
      rw [if_pos (by omega), h.2 74 j (by decide), show i - p = j by omega]
    · rename_i e
      rw [h.1 i]
      by_cases h1 : p ≤ i ∧ i < p + j
      · rw [if_pos h1, if_pos (by omega)]
      · rw [if_neg h1, if_neg (by
          intro z
          apply e
          refine ⟨rfl, ?_⟩
          omega)]
  · rw [up_c _ _ hc]
    exact h.2 col i hc
theorem MN_put {D D1 : MI} {N : List Msg} {x : Msg} (h : MN D N) (hn : N.length < 300) (hx : ∀ w, w < 14 → D 74 w = x w) (s : cpy D (14 * N.length) 14 D1) : MN (up D1 71 0 (nI (N.length + 1))) (N ++ [x]) := by
  obtain ⟨h1, h2, h3⟩ := h
  refine ⟨by simp; omega, by simp [up_rd], fun k y hk w hw => ?_⟩
  rw [up_c _ _ (by decide), s.1]
  by_cases hk2 : k < N.length
  · rw [List.getElem?_append_left hk2] at hk
    rw [if_neg (by omega)]
    exact h3 k y hk w hw
  · have hk3 := (List.getElem?_eq_some_iff.mp hk).1
    simp at hk3
    have : k = N.length := by omega
    subst this
    simp at hk
    rw [if_pos (by omega), show 14 * N.length + w - 14 * N.length = w by omega, hx w hw, hk]
theorem d_Mod_remove_0 : decode b_Mod_remove 0 = .ok (.bipush 14, 2) := by decide +kernel
theorem d_Mod_remove_2 : decode b_Mod_remove 2 = .ok (.iload_n 1, 1) := by decide +kernel
theorem d_Mod_remove_3 : decode b_Mod_remove 3 = .ok (.iconst 1, 1) := by decide +kernel
theorem d_Mod_remove_4 : decode b_Mod_remove 4 = .ok (.iadd, 1) := by decide +kernel
theorem d_Mod_remove_5 : decode b_Mod_remove 5 = .ok (.imul, 1) := by decide +kernel
theorem d_Mod_remove_6 : decode b_Mod_remove 6 = .ok (.istore_n 2, 1) := by decide +kernel
theorem d_Mod_remove_7 : decode b_Mod_remove 7 = .ok (.iload_n 2, 1) := by decide +kernel
theorem d_Mod_remove_8 : decode b_Mod_remove 8 = .ok (.bipush 14, 2) := by decide +kernel
theorem d_Mod_remove_10 : decode b_Mod_remove 10 = .ok (.aload_n 0, 1) := by decide +kernel
theorem d_Mod_remove_11 : decode b_Mod_remove 11 = .ok (.getfield 114, 3) := by decide +kernel
theorem d_Mod_remove_14 : decode b_Mod_remove 14 = .ok (.imul, 1) := by decide +kernel
theorem d_Mod_remove_15 : decode b_Mod_remove 15 = .ok (.if_icmp .ge 24, 3) := by decide +kernel
theorem d_Mod_remove_18 : decode b_Mod_remove 18 = .ok (.aload_n 0, 1) := by decide +kernel
theorem d_Mod_remove_19 : decode b_Mod_remove 19 = .ok (.getfield 86, 3) := by decide +kernel
theorem d_Mod_remove_22 : decode b_Mod_remove 22 = .ok (.iload_n 2, 1) := by decide +kernel
theorem d_Mod_remove_23 : decode b_Mod_remove 23 = .ok (.bipush 14, 2) := by decide +kernel
theorem d_Mod_remove_25 : decode b_Mod_remove 25 = .ok (.isub, 1) := by decide +kernel
theorem d_Mod_remove_26 : decode b_Mod_remove 26 = .ok (.aload_n 0, 1) := by decide +kernel
theorem d_Mod_remove_27 : decode b_Mod_remove 27 = .ok (.getfield 86, 3) := by decide +kernel
theorem d_Mod_remove_30 : decode b_Mod_remove 30 = .ok (.iload_n 2, 1) := by decide +kernel
theorem d_Mod_remove_31 : decode b_Mod_remove 31 = .ok (.iaload, 1) := by decide +kernel
theorem d_Mod_remove_32 : decode b_Mod_remove 32 = .ok (.iastore, 1) := by decide +kernel
theorem d_Mod_remove_33 : decode b_Mod_remove 33 = .ok (.iinc 2 1, 3) := by decide +kernel
theorem d_Mod_remove_36 : decode b_Mod_remove 36 = .ok (.goto (-29), 3) := by decide +kernel
theorem d_Mod_remove_39 : decode b_Mod_remove 39 = .ok (.aload_n 0, 1) := by decide +kernel
theorem d_Mod_remove_40 : decode b_Mod_remove 40 = .ok (.dup, 1) := by decide +kernel
theorem d_Mod_remove_41 : decode b_Mod_remove 41 = .ok (.getfield 114, 3) := by decide +kernel
theorem d_Mod_remove_44 : decode b_Mod_remove 44 = .ok (.iconst 1, 1) := by decide +kernel
theorem d_Mod_remove_45 : decode b_Mod_remove 45 = .ok (.isub, 1) := by decide +kernel
theorem d_Mod_remove_46 : decode b_Mod_remove 46 = .ok (.putfield 114, 3) := by decide +kernel
theorem d_Mod_remove_49 : decode b_Mod_remove 49 = .ok (.return_, 1) := by decide +kernel
set_option maxRecDepth 100000 in
set_option maxHeartbeats 4000000 in
theorem c_Mod_remove (l : Launch) (K : Kx) (V : Vx) (A B C D : MI) (P : MP) (ms : MSt K V P) (N : List Msg) (hm : MN D N) (pl : Nat) (hpl : pl < N.length) : Ct l K md_Mod_remove (0, 0) 0 0 [.ref (K.ad 6 0), .int (nI pl)] V (bk4 A B C D) P (MQn V A B P none C D (N.eraseIdx pl)) := by
  refine ct_of [(0, .ref (K.ad 6 0)), (1, .int (nI pl))] (by decide) (Nat.le_of_ble_eq_true rfl) (ca_r (ca_i ca_n)) rfl ?_
  intro X hl hX
  have h : OkX X b_Mod_remove R_Mod K := hX.1
  have hN : X.nL = 3 := hX.2.1
  have hmv := ms.1
  have hm0 := hm.1
  have hL : ∀ (k j : Nat) (D1 : MI), j + k = 14 * N.length → 14 * pl + 14 ≤ j ∧ shf D (14 * pl) j D1 → J X K V (bk4 A B C D1) P 0 0 7 [(0, .ref (K.ad 6 0)), (1, .int (nI pl)), (2, .int (nI j))] [] := by
    intro k
    induction k with
    | zero =>
      intro j D1 hi hv
      have hi2 : 14 * N.length = j := by omega
      subst hi2
      refine j_iload_n h d_Mod_remove_7 rfl ?_
      refine j_bipush (v := 14) h d_Mod_remove_8 (by decide) ?_
      refine j_aload_n h d_Mod_remove_10 rfl ?_
      refine j_get3e (v := nI N.length) h d_Mod_remove_11 fl_Mod_114 rfl (by assumption) ((hv.2.2 71 0 (by decide)).trans hm.2.1) ?_
      refine j_ml14 h d_Mod_remove_14 ?_
      refine j_ic_ge (tgt := 39) h d_Mod_remove_15 (by decide) (fun _ => ?_) (fun c => absurd (nI_le (Nat.le_refl _) (by omega)) c)
      have hv := hv.2
      refine j_aload_n h d_Mod_remove_39 rfl ?_
      refine j_dup h d_Mod_remove_40 rfl ?_
      refine j_get3e (v := nI N.length) h d_Mod_remove_41 fl_Mod_114 rfl (by assumption) ((hv.2 71 0 (by decide)).trans hm.2.1) ?_
      refine j_iconst (v := 1) h d_Mod_remove_44 (by decide) ?_
      refine j_sb1 h (by omega) d_Mod_remove_45 ?_
      refine j_put3 h d_Mod_remove_46 fw_Mod_114 rfl rfl (by assumption) ?_
      exact j_vret hX d_Mod_remove_49 rfl (Nat.le_refl _) (Nat.le_refl _) ⟨rfl, rfl, rfl, _, rfl, fun col i hc hd => by rw [up_c _ _ hc]; exact hv.2 col i hd, MN_rm hm hpl hv⟩
    | succ k ih =>
      intro j D1 hi hv
      have hi2 : j < 14 * N.length := by omega
      have hv0 := hv
      have hm1 := hm.1
      refine j_iload_n h d_Mod_remove_7 rfl ?_
      refine j_bipush (v := 14) h d_Mod_remove_8 (by decide) ?_
      refine j_aload_n h d_Mod_remove_10 rfl ?_
      refine j_get3e (v := nI N.length) h d_Mod_remove_11 fl_Mod_114 rfl (by assumption) ((hv.2.2 71 0 (by decide)).trans hm.2.1) ?_
      refine j_ml14 h d_Mod_remove_14 ?_
      refine j_ic_ge (tgt := 39) h d_Mod_remove_15 (by decide) (fun c => absurd c (nI_ge hi2 (by omega))) (fun _ => ?_)
      refine j_aload_n h d_Mod_remove_18 rfl ?_
      refine j_getR h d_Mod_remove_19 fl_Mod_86 rfl (by assumption) (mP ms (a := 35) (by decide)) ?_
      refine j_iload_n h d_Mod_remove_22 rfl ?_
      refine j_bipush (v := 14) h d_Mod_remove_23 (by decide) ?_
      refine j_sb14 h (by omega) d_Mod_remove_25 ?_
      refine j_aload_n h d_Mod_remove_26 rfl ?_
      refine j_getR h d_Mod_remove_27 fl_Mod_86 rfl (by assumption) (mP ms (a := 35) (by decide)) ?_
      refine j_iload_n h d_Mod_remove_30 rfl ?_
      refine m_iald3 (a := 35) (L := 4200) (j := j) h ms d_Mod_remove_31 (by decide) rfl (by decide) rfl rfl (by omega) ?_
      refine m_iast3 (a := 35) (L := 4200) (j := (j - 14)) h ms d_Mod_remove_32 (by decide) rfl (by decide) rfl rfl (by omega) ?_
      refine j_iinc (v := nI (j + 1)) h d_Mod_remove_33 rfl (nI_i j) (Nat.lt_of_lt_of_eq (m := 3) (by decide) hN.symm) ?_
      refine j_goto (tgt := 7) h d_Mod_remove_36 (by decide) ?_
      refine j_lv (lv' := [(0, .ref (K.ad 6 0)), (1, .int (nI pl)), (2, .int (nI (j + 1)))]) (lvs rfl (lvs rfl (lvs rfl lvs0))) ?_
      exact ih (j + 1) _ (by omega) ⟨by omega, shf_s hv.2 (by omega)⟩
  refine j_bipush (v := 14) h d_Mod_remove_0 (by decide) ?_
  refine j_iload_n h d_Mod_remove_2 rfl ?_
  refine j_iconst (v := 1) h d_Mod_remove_3 (by decide) ?_
  refine j_ad1 h d_Mod_remove_4 ?_
  refine j_ml14 h d_Mod_remove_5 ?_
  refine j_istore_n h d_Mod_remove_6 (Nat.lt_of_lt_of_eq (m := 3) (by decide) hN.symm) ?_
  refine j_lv (lv' := [(0, .ref (K.ad 6 0)), (1, .int (nI pl)), (2, .int (nI (14 * (pl + 1))))]) (lvs rfl (lvs rfl (lvs rfl lvs0))) ?_
  exact hL (14 * N.length - 14 * (pl + 1)) _ D (by omega) ⟨by omega, fun i => by rw [if_neg (by omega)], fun _ _ _ => rfl⟩
theorem d_Mod_say_0 : decode b_Mod_say 0 = .ok (.iconst 0, 1) := by decide +kernel
theorem d_Mod_say_1 : decode b_Mod_say 1 = .ok (.istore 8, 2) := by decide +kernel
theorem d_Mod_say_3 : decode b_Mod_say 3 = .ok (.iload 8, 2) := by decide +kernel
theorem d_Mod_say_5 : decode b_Mod_say 5 = .ok (.bipush 14, 2) := by decide +kernel
theorem d_Mod_say_7 : decode b_Mod_say 7 = .ok (.if_icmp .ge 17, 3) := by decide +kernel
theorem d_Mod_say_10 : decode b_Mod_say 10 = .ok (.aload_n 0, 1) := by decide +kernel
theorem d_Mod_say_11 : decode b_Mod_say 11 = .ok (.getfield 92, 3) := by decide +kernel
theorem d_Mod_say_14 : decode b_Mod_say 14 = .ok (.iload 8, 2) := by decide +kernel
theorem d_Mod_say_16 : decode b_Mod_say 16 = .ok (.iconst 0, 1) := by decide +kernel
theorem d_Mod_say_17 : decode b_Mod_say 17 = .ok (.iastore, 1) := by decide +kernel
theorem d_Mod_say_18 : decode b_Mod_say 18 = .ok (.iinc 8 1, 3) := by decide +kernel
theorem d_Mod_say_21 : decode b_Mod_say 21 = .ok (.goto (-18), 3) := by decide +kernel
theorem d_Mod_say_24 : decode b_Mod_say 24 = .ok (.aload_n 0, 1) := by decide +kernel
theorem d_Mod_say_25 : decode b_Mod_say 25 = .ok (.getfield 92, 3) := by decide +kernel
theorem d_Mod_say_28 : decode b_Mod_say 28 = .ok (.iconst 0, 1) := by decide +kernel
theorem d_Mod_say_29 : decode b_Mod_say 29 = .ok (.iload_n 1, 1) := by decide +kernel
theorem d_Mod_say_30 : decode b_Mod_say 30 = .ok (.iastore, 1) := by decide +kernel
theorem d_Mod_say_31 : decode b_Mod_say 31 = .ok (.aload_n 0, 1) := by decide +kernel
theorem d_Mod_say_32 : decode b_Mod_say 32 = .ok (.getfield 92, 3) := by decide +kernel
theorem d_Mod_say_35 : decode b_Mod_say 35 = .ok (.iconst 1, 1) := by decide +kernel
theorem d_Mod_say_36 : decode b_Mod_say 36 = .ok (.iload_n 2, 1) := by decide +kernel
theorem d_Mod_say_37 : decode b_Mod_say 37 = .ok (.iastore, 1) := by decide +kernel
theorem d_Mod_say_38 : decode b_Mod_say 38 = .ok (.aload_n 0, 1) := by decide +kernel
theorem d_Mod_say_39 : decode b_Mod_say 39 = .ok (.getfield 92, 3) := by decide +kernel
theorem d_Mod_say_42 : decode b_Mod_say 42 = .ok (.iconst 2, 1) := by decide +kernel
theorem d_Mod_say_43 : decode b_Mod_say 43 = .ok (.iload_n 3, 1) := by decide +kernel
theorem d_Mod_say_44 : decode b_Mod_say 44 = .ok (.iastore, 1) := by decide +kernel
theorem d_Mod_say_45 : decode b_Mod_say 45 = .ok (.aload_n 0, 1) := by decide +kernel
theorem d_Mod_say_46 : decode b_Mod_say 46 = .ok (.getfield 92, 3) := by decide +kernel
theorem d_Mod_say_49 : decode b_Mod_say 49 = .ok (.iconst 3, 1) := by decide +kernel
theorem d_Mod_say_50 : decode b_Mod_say 50 = .ok (.iload 4, 2) := by decide +kernel
theorem d_Mod_say_52 : decode b_Mod_say 52 = .ok (.iastore, 1) := by decide +kernel
theorem d_Mod_say_53 : decode b_Mod_say 53 = .ok (.aload_n 0, 1) := by decide +kernel
theorem d_Mod_say_54 : decode b_Mod_say 54 = .ok (.getfield 92, 3) := by decide +kernel
theorem d_Mod_say_57 : decode b_Mod_say 57 = .ok (.iconst 4, 1) := by decide +kernel
theorem d_Mod_say_58 : decode b_Mod_say 58 = .ok (.iload 5, 2) := by decide +kernel
theorem d_Mod_say_60 : decode b_Mod_say 60 = .ok (.iastore, 1) := by decide +kernel
theorem d_Mod_say_61 : decode b_Mod_say 61 = .ok (.aload_n 0, 1) := by decide +kernel
theorem d_Mod_say_62 : decode b_Mod_say 62 = .ok (.getfield 92, 3) := by decide +kernel
theorem d_Mod_say_65 : decode b_Mod_say 65 = .ok (.iconst 5, 1) := by decide +kernel
theorem d_Mod_say_66 : decode b_Mod_say 66 = .ok (.iload 6, 2) := by decide +kernel
theorem d_Mod_say_68 : decode b_Mod_say 68 = .ok (.iastore, 1) := by decide +kernel
theorem d_Mod_say_69 : decode b_Mod_say 69 = .ok (.aload_n 0, 1) := by decide +kernel
theorem d_Mod_say_70 : decode b_Mod_say 70 = .ok (.getfield 92, 3) := by decide +kernel
theorem d_Mod_say_73 : decode b_Mod_say 73 = .ok (.bipush 6, 2) := by decide +kernel
theorem d_Mod_say_75 : decode b_Mod_say 75 = .ok (.iload 7, 2) := by decide +kernel
theorem d_Mod_say_77 : decode b_Mod_say 77 = .ok (.iastore, 1) := by decide +kernel
theorem d_Mod_say_78 : decode b_Mod_say 78 = .ok (.return_, 1) := by decide +kernel
set_option maxRecDepth 100000 in
set_option maxHeartbeats 4000000 in
theorem c_Mod_say (l : Launch) (K : Kx) (V : Vx) (A B C D : MI) (P : MP) (ms : MSt K V P) (z1 z2 z3 z4 z5 z6 z7 : Int32) : Ct l K md_Mod_say (0, 0) 0 0 [.ref (K.ad 6 0), .int z1, .int z2, .int z3, .int z4, .int z5, .int z6, .int z7] V (bk4 A B C D) P (fun V' r I' P' => V' = V ∧ r = none ∧ P' = P ∧ ∃ D', I' = bk4 A B C D' ∧ (∀ col i, col ≠ 74 → D' col i = D col i) ∧ ∀ w, w < 14 → D' 74 w = mk7 z1 z2 z3 z4 z5 z6 z7 w) := by
  refine ct_of [(0, .ref (K.ad 6 0)), (1, .int z1), (2, .int z2), (3, .int z3), (4, .int z4), (5, .int z5), (6, .int z6), (7, .int z7)] (by decide) (Nat.le_of_ble_eq_true rfl) (ca_r (ca_i (ca_i (ca_i (ca_i (ca_i (ca_i (ca_i ca_n)))))))) rfl ?_
  intro X hl hX
  have h : OkX X b_Mod_say R_Mod K := hX.1
  have hN : X.nL = 9 := hX.2.1
  have hmv := ms.1
  have hL : ∀ (k j : Nat) (D1 : MI), j + k = 14 → zer D j D1 → J X K V (bk4 A B C D1) P 0 0 3 [(0, .ref (K.ad 6 0)), (1, .int z1), (2, .int z2), (3, .int z3), (4, .int z4), (5, .int z5), (6, .int z6), (7, .int z7), (8, .int (nI j))] [] := by
    intro k
    induction k with
    | zero =>
      intro j D1 hi hv
      have hi2 : 14 = j := by omega
      subst hi2
      refine j_iload h d_Mod_say_3 rfl ?_
      refine j_bipush (v := 14) h d_Mod_say_5 (by decide) ?_
      refine j_ic_ge (tgt := 24) h d_Mod_say_7 (by decide) (fun _ => ?_) (fun c => absurd (nI_le (Nat.le_refl _) (by decide)) c)
      refine j_aload_n h d_Mod_say_24 rfl ?_
      refine j_getR h d_Mod_say_25 fl_Mod_92 rfl (by assumption) (mP ms (a := 37) (by decide)) ?_
      refine j_iconst (v := 0) h d_Mod_say_28 (by decide) ?_
      refine j_iload_n h d_Mod_say_29 rfl ?_
      refine m_iast3 (a := 37) (L := 14) (j := 0) h ms d_Mod_say_30 (by decide) rfl (by decide) rfl rfl (by omega) ?_
      refine j_aload_n h d_Mod_say_31 rfl ?_
      refine j_getR h d_Mod_say_32 fl_Mod_92 rfl (by assumption) (mP ms (a := 37) (by decide)) ?_
      refine j_iconst (v := 1) h d_Mod_say_35 (by decide) ?_
      refine j_iload_n h d_Mod_say_36 rfl ?_
      refine m_iast3 (a := 37) (L := 14) (j := 1) h ms d_Mod_say_37 (by decide) rfl (by decide) rfl rfl (by omega) ?_
      refine j_aload_n h d_Mod_say_38 rfl ?_
      refine j_getR h d_Mod_say_39 fl_Mod_92 rfl (by assumption) (mP ms (a := 37) (by decide)) ?_
      refine j_iconst (v := 2) h d_Mod_say_42 (by decide) ?_
      refine j_iload_n h d_Mod_say_43 rfl ?_
      refine m_iast3 (a := 37) (L := 14) (j := 2) h ms d_Mod_say_44 (by decide) rfl (by decide) rfl rfl (by omega) ?_
      refine j_aload_n h d_Mod_say_45 rfl ?_
      refine j_getR h d_Mod_say_46 fl_Mod_92 rfl (by assumption) (mP ms (a := 37) (by decide)) ?_
      refine j_iconst (v := 3) h d_Mod_say_49 (by decide) ?_
      refine j_iload h d_Mod_say_50 rfl ?_
      refine m_iast3 (a := 37) (L := 14) (j := 3) h ms d_Mod_say_52 (by decide) rfl (by decide) rfl rfl (by omega) ?_
      refine j_aload_n h d_Mod_say_53 rfl ?_
      refine j_getR h d_Mod_say_54 fl_Mod_92 rfl (by assumption) (mP ms (a := 37) (by decide)) ?_
      refine j_iconst (v := 4) h d_Mod_say_57 (by decide) ?_
      refine j_iload h d_Mod_say_58 rfl ?_
      refine m_iast3 (a := 37) (L := 14) (j := 4) h ms d_Mod_say_60 (by decide) rfl (by decide) rfl rfl (by omega) ?_
      refine j_aload_n h d_Mod_say_61 rfl ?_
      refine j_getR h d_Mod_say_62 fl_Mod_92 rfl (by assumption) (mP ms (a := 37) (by decide)) ?_
      refine j_iconst (v := 5) h d_Mod_say_65 (by decide) ?_
      refine j_iload h d_Mod_say_66 rfl ?_
      refine m_iast3 (a := 37) (L := 14) (j := 5) h ms d_Mod_say_68 (by decide) rfl (by decide) rfl rfl (by omega) ?_
      refine j_aload_n h d_Mod_say_69 rfl ?_
      refine j_getR h d_Mod_say_70 fl_Mod_92 rfl (by assumption) (mP ms (a := 37) (by decide)) ?_
      refine j_bipush (v := 6) h d_Mod_say_73 (by decide) ?_
      refine j_iload h d_Mod_say_75 rfl ?_
      refine m_iast3 (a := 37) (L := 14) (j := 6) h ms d_Mod_say_77 (by decide) rfl (by decide) rfl rfl (by omega) ?_
      refine j_vret hX d_Mod_say_78 rfl (Nat.le_refl _) (Nat.le_refl _) ⟨rfl, rfl, rfl, _, rfl, fun col i hc => by simp only [up_rd]; simp [hc, hv.2 col i hc], fun w hw => ?_⟩
      have hz := hv.1 w hw
      simp only [up_rd]
      rcases (show w = 0 ∨ w = 1 ∨ w = 2 ∨ w = 3 ∨ w = 4 ∨ w = 5 ∨ w = 6 ∨ w = 7 ∨ w = 8 ∨ w = 9 ∨ w = 10 ∨ w = 11 ∨ w = 12 ∨ w = 13 by omega) with rfl | rfl | rfl | rfl | rfl | rfl | rfl | rfl | rfl | rfl | rfl | rfl | rfl | rfl <;> simp [mk7] <;> exact hz
    | succ k ih =>
      intro j D1 hi hv
      have hi2 : j < 14 := by omega
      refine j_iload h d_Mod_say_3 rfl ?_
      refine j_bipush (v := 14) h d_Mod_say_5 (by decide) ?_
      refine j_ic_ge (tgt := 24) h d_Mod_say_7 (by decide) (fun c => absurd c (nI_ge hi2 (by decide))) (fun _ => ?_)
      refine j_aload_n h d_Mod_say_10 rfl ?_
      refine j_getR h d_Mod_say_11 fl_Mod_92 rfl (by assumption) (mP ms (a := 37) (by decide)) ?_
      refine j_iload h d_Mod_say_14 rfl ?_
      refine j_iconst (v := 0) h d_Mod_say_16 (by decide) ?_
      refine m_iast3 (a := 37) (L := 14) (j := j) h ms d_Mod_say_17 (by decide) rfl (by decide) rfl rfl (by omega) ?_
      refine j_iinc (v := nI (j + 1)) h d_Mod_say_18 rfl (nI_i j) (Nat.lt_of_lt_of_eq (m := 9) (by decide) hN.symm) ?_
      refine j_goto (tgt := 3) h d_Mod_say_21 (by decide) ?_
      refine j_lv (lv' := [(0, .ref (K.ad 6 0)), (1, .int z1), (2, .int z2), (3, .int z3), (4, .int z4), (5, .int z5), (6, .int z6), (7, .int z7), (8, .int (nI (j + 1)))]) (lvs rfl (lvs rfl (lvs rfl (lvs rfl (lvs rfl (lvs rfl (lvs rfl (lvs rfl (lvs rfl lvs0))))))))) ?_
      exact ih (j + 1) _ (by omega) (zer_s hv)
  refine j_iconst (v := 0) h d_Mod_say_0 (by decide) ?_
  refine j_istore h d_Mod_say_1 (Nat.lt_of_lt_of_eq (m := 9) (by decide) hN.symm) ?_
  refine j_lv (lv' := [(0, .ref (K.ad 6 0)), (1, .int z1), (2, .int z2), (3, .int z3), (4, .int z4), (5, .int z5), (6, .int z6), (7, .int z7), (8, .int (nI 0))]) (lvs rfl (lvs rfl (lvs rfl (lvs rfl (lvs rfl (lvs rfl (lvs rfl (lvs rfl (lvs rfl lvs0))))))))) ?_
  exact hL 14 0 D (by omega) ⟨fun _ h => absurd h (by omega), fun _ _ _ => rfl⟩
theorem d_Mod_put_0 : decode b_Mod_put 0 = .ok (.aload_n 0, 1) := by decide +kernel
theorem d_Mod_put_1 : decode b_Mod_put 1 = .ok (.getfield 114, 3) := by decide +kernel
theorem d_Mod_put_4 : decode b_Mod_put 4 = .ok (.sipush 300, 3) := by decide +kernel
theorem d_Mod_put_7 : decode b_Mod_put 7 = .ok (.if_icmp .ne 8, 3) := by decide +kernel
theorem d_Mod_put_10 : decode b_Mod_put 10 = .ok (.aload_n 0, 1) := by decide +kernel
theorem d_Mod_put_11 : decode b_Mod_put 11 = .ok (.iconst 0, 1) := by decide +kernel
theorem d_Mod_put_12 : decode b_Mod_put 12 = .ok (.invokevirtual 117, 3) := by decide +kernel
theorem d_Mod_put_15 : decode b_Mod_put 15 = .ok (.iconst 0, 1) := by decide +kernel
theorem d_Mod_put_16 : decode b_Mod_put 16 = .ok (.istore_n 1, 1) := by decide +kernel
theorem d_Mod_put_17 : decode b_Mod_put 17 = .ok (.iload_n 1, 1) := by decide +kernel
theorem d_Mod_put_18 : decode b_Mod_put 18 = .ok (.bipush 14, 2) := by decide +kernel
theorem d_Mod_put_20 : decode b_Mod_put 20 = .ok (.if_icmp .ge 29, 3) := by decide +kernel
theorem d_Mod_put_23 : decode b_Mod_put 23 = .ok (.aload_n 0, 1) := by decide +kernel
theorem d_Mod_put_24 : decode b_Mod_put 24 = .ok (.getfield 86, 3) := by decide +kernel
theorem d_Mod_put_27 : decode b_Mod_put 27 = .ok (.bipush 14, 2) := by decide +kernel
theorem d_Mod_put_29 : decode b_Mod_put 29 = .ok (.aload_n 0, 1) := by decide +kernel
theorem d_Mod_put_30 : decode b_Mod_put 30 = .ok (.getfield 114, 3) := by decide +kernel
theorem d_Mod_put_33 : decode b_Mod_put 33 = .ok (.imul, 1) := by decide +kernel
theorem d_Mod_put_34 : decode b_Mod_put 34 = .ok (.iload_n 1, 1) := by decide +kernel
theorem d_Mod_put_35 : decode b_Mod_put 35 = .ok (.iadd, 1) := by decide +kernel
theorem d_Mod_put_36 : decode b_Mod_put 36 = .ok (.aload_n 0, 1) := by decide +kernel
theorem d_Mod_put_37 : decode b_Mod_put 37 = .ok (.getfield 92, 3) := by decide +kernel
theorem d_Mod_put_40 : decode b_Mod_put 40 = .ok (.iload_n 1, 1) := by decide +kernel
theorem d_Mod_put_41 : decode b_Mod_put 41 = .ok (.iaload, 1) := by decide +kernel
theorem d_Mod_put_42 : decode b_Mod_put 42 = .ok (.iastore, 1) := by decide +kernel
theorem d_Mod_put_43 : decode b_Mod_put 43 = .ok (.iinc 1 1, 3) := by decide +kernel
theorem d_Mod_put_46 : decode b_Mod_put 46 = .ok (.goto (-29), 3) := by decide +kernel
theorem d_Mod_put_49 : decode b_Mod_put 49 = .ok (.aload_n 0, 1) := by decide +kernel
theorem d_Mod_put_50 : decode b_Mod_put 50 = .ok (.dup, 1) := by decide +kernel
theorem d_Mod_put_51 : decode b_Mod_put 51 = .ok (.getfield 114, 3) := by decide +kernel
theorem d_Mod_put_54 : decode b_Mod_put 54 = .ok (.iconst 1, 1) := by decide +kernel
theorem d_Mod_put_55 : decode b_Mod_put 55 = .ok (.iadd, 1) := by decide +kernel
theorem d_Mod_put_56 : decode b_Mod_put 56 = .ok (.putfield 114, 3) := by decide +kernel
theorem d_Mod_put_59 : decode b_Mod_put 59 = .ok (.return_, 1) := by decide +kernel
set_option maxRecDepth 100000 in
set_option maxHeartbeats 4000000 in
theorem c_Mod_put (l : Launch) (K : Kx) (V : Vx) (A B C D : MI) (P : MP) (ms : MSt K V P) (N : List Msg) (hm : MN D N) (x : Msg) (hx : ∀ w, w < 14 → D 74 w = x w) : Ct l K md_Mod_put (1, 22) 0 0 [.ref (K.ad 6 0)] V (bk4 A B C D) P (MQn V A B P none C D (netput x N)) := by
  refine ct_of [(0, .ref (K.ad 6 0))] (by decide) (Nat.le_of_ble_eq_true rfl) (ca_r ca_n) rfl ?_
  intro X hl hX
  have h : OkX X b_Mod_put R_Mod K := hX.1
  have hN : X.nL = 2 := hX.2.1
  have hmv := ms.1
  have hG : ∀ (D0 : MI) (N0 : List Msg), MN D0 N0 → N0.length < 300 → (∀ w, w < 14 → D0 74 w = x w) → DKn D D0 → netput x N = N0 ++ [x] → J X K V (bk4 A B C D0) P 0 0 15 [(0, .ref (K.ad 6 0))] [] := by
    intro D0 N0 hm0 hn0 hx0 hk0 he
    have hL : ∀ (k j : Nat) (D1 : MI), j + k = 14 → cpy D0 (14 * N0.length) j D1 → J X K V (bk4 A B C D1) P 0 0 17 [(0, .ref (K.ad 6 0)), (1, .int (nI j))] [] := by
      intro k
      induction k with
      | zero =>
        intro j D1 hi hv
        have hi2 : 14 = j := by omega
        subst hi2
        refine j_iload_n h d_Mod_put_17 rfl ?_
        refine j_bipush (v := 14) h d_Mod_put_18 (by decide) ?_
        refine j_ic_ge (tgt := 49) h d_Mod_put_20 (by decide) (fun _ => ?_) (fun c => absurd (nI_le (Nat.le_refl _) (by decide)) c)
        refine j_aload_n h d_Mod_put_49 rfl ?_
        refine j_dup h d_Mod_put_50 rfl ?_
        refine j_get3e (v := nI N0.length) h d_Mod_put_51 fl_Mod_114 rfl (by assumption) ((hv.2 71 0 (by decide)).trans hm0.2.1) ?_
        refine j_iconst (v := 1) h d_Mod_put_54 (by decide) ?_
        refine j_ad1 h d_Mod_put_55 ?_
        refine j_put3 h d_Mod_put_56 fw_Mod_114 rfl rfl (by assumption) ?_
        exact j_vret hX d_Mod_put_59 rfl (Nat.le_refl _) (Nat.le_refl _) ⟨rfl, rfl, rfl, _, rfl, fun col i hc hd => by rw [up_c _ _ hc, hv.2 col i hd]; exact hk0 col i hc hd, by rw [he]; exact MN_put hm0 hn0 hx0 hv⟩
      | succ k ih =>
        intro j D1 hi hv
        have hi2 : j < 14 := by omega
        refine j_iload_n h d_Mod_put_17 rfl ?_
        refine j_bipush (v := 14) h d_Mod_put_18 (by decide) ?_
        refine j_ic_ge (tgt := 49) h d_Mod_put_20 (by decide) (fun c => absurd c (nI_ge hi2 (by decide))) (fun _ => ?_)
        refine j_aload_n h d_Mod_put_23 rfl ?_
        refine j_getR h d_Mod_put_24 fl_Mod_86 rfl (by assumption) (mP ms (a := 35) (by decide)) ?_
        refine j_bipush (v := 14) h d_Mod_put_27 (by decide) ?_
        refine j_aload_n h d_Mod_put_29 rfl ?_
        refine j_get3e (v := nI N0.length) h d_Mod_put_30 fl_Mod_114 rfl (by assumption) ((hv.2 71 0 (by decide)).trans hm0.2.1) ?_
        refine j_imul h d_Mod_put_33 ?_
        refine j_iload_n h d_Mod_put_34 rfl ?_
        refine j_ix14 (s := N0.length) (a := j) h d_Mod_put_35 ?_
        refine j_aload_n h d_Mod_put_36 rfl ?_
        refine j_getR h d_Mod_put_37 fl_Mod_92 rfl (by assumption) (mP ms (a := 37) (by decide)) ?_
        refine j_iload_n h d_Mod_put_40 rfl ?_
        refine m_iald3 (a := 37) (L := 14) (j := j) h ms d_Mod_put_41 (by decide) rfl (by decide) rfl rfl (by omega) ?_
        refine m_iast3 (a := 35) (L := 4200) (j := (14 * N0.length + j)) h ms d_Mod_put_42 (by decide) rfl (by decide) rfl rfl (by omega) ?_
        refine j_iinc (v := nI (j + 1)) h d_Mod_put_43 rfl (nI_i j) (Nat.lt_of_lt_of_eq (m := 2) (by decide) hN.symm) ?_
        refine j_goto (tgt := 17) h d_Mod_put_46 (by decide) ?_
        refine j_lv (lv' := [(0, .ref (K.ad 6 0)), (1, .int (nI (j + 1)))]) (lvs rfl (lvs rfl lvs0)) ?_
        exact ih (j + 1) _ (by omega) (cpy_s hv)
    refine j_iconst (v := 0) h d_Mod_put_15 (by decide) ?_
    refine j_istore_n h d_Mod_put_16 (Nat.lt_of_lt_of_eq (m := 2) (by decide) hN.symm) ?_
    refine j_lv (lv' := [(0, .ref (K.ad 6 0)), (1, .int (nI 0))]) (lvs rfl (lvs rfl lvs0)) ?_
    exact hL 14 0 D0 (by omega) ⟨fun i => by rw [if_neg (by omega)], fun _ _ _ => rfl⟩
  refine j_aload_n h d_Mod_put_0 rfl ?_
  refine j_get3e (v := nI N.length) h d_Mod_put_1 fl_Mod_114 rfl (by assumption) hm.2.1 ?_
  refine j_sipush (v := 300) h d_Mod_put_4 (by decide) ?_
  refine j_ic_ne (tgt := 15) h d_Mod_put_7 (by decide) (fun c => ?_) (fun c => ?_)
  · have hne : N.length ≠ 300 := fun e => c (by rw [e]; rfl)
    exact hG D N hm (by have := hm.1; omega) hx (fun _ _ _ _ => rfl) (by unfold netput; rw [if_neg hne])
  · have hne : N.length = 300 := by
      have c := congrArg Int32.toNatClampNeg c
      rw [nI_clamp (by have := hm.1; omega)] at c
      exact c
    refine j_aload_n h d_Mod_put_10 rfl ?_
    refine j_iconst (v := 0) h d_Mod_put_11 (by decide) ?_
    refine j_callV h (c_Mod_remove _ _ _ _ _ _ _ _ ms _ hm 0 (by omega)) d_Mod_put_12 ml_Mod_117 mv_Mod_remove (by assumption) ⟨rfl, rfl⟩ rfl rfl (Nat.le_of_ble_eq_true rfl) (hR_of hX (by decide) (by decide)) (hf_of hX (by decide) (by decide)) ?_
    rintro V2 _ _ P2 ⟨rfl, rfl, rfl, D2, rfl, hk2, hm2⟩
    exact hG D2 _ hm2 (by rw [List.length_eraseIdx, if_pos (by omega)]; omega) (fun w hw => (hk2 74 w (by decide) (by decide)).trans (hx w hw)) hk2 (by unfold netput; rw [if_pos hne, List.eraseIdx_zero])
theorem d_Mod_sendHello_0 : decode b_Mod_sendHello 0 = .ok (.aload_n 0, 1) := by decide +kernel
theorem d_Mod_sendHello_1 : decode b_Mod_sendHello 1 = .ok (.iconst 2, 1) := by decide +kernel
theorem d_Mod_sendHello_2 : decode b_Mod_sendHello 2 = .ok (.iconst 1, 1) := by decide +kernel
theorem d_Mod_sendHello_3 : decode b_Mod_sendHello 3 = .ok (.iload_n 1, 1) := by decide +kernel
theorem d_Mod_sendHello_4 : decode b_Mod_sendHello 4 = .ok (.isub, 1) := by decide +kernel
theorem d_Mod_sendHello_5 : decode b_Mod_sendHello 5 = .ok (.iload_n 1, 1) := by decide +kernel
theorem d_Mod_sendHello_6 : decode b_Mod_sendHello 6 = .ok (.iconst 0, 1) := by decide +kernel
theorem d_Mod_sendHello_7 : decode b_Mod_sendHello 7 = .ok (.iconst (-1), 1) := by decide +kernel
theorem d_Mod_sendHello_8 : decode b_Mod_sendHello 8 = .ok (.aload_n 0, 1) := by decide +kernel
theorem d_Mod_sendHello_9 : decode b_Mod_sendHello 9 = .ok (.getfield 16, 3) := by decide +kernel
theorem d_Mod_sendHello_12 : decode b_Mod_sendHello 12 = .ok (.iload_n 1, 1) := by decide +kernel
theorem d_Mod_sendHello_13 : decode b_Mod_sendHello 13 = .ok (.iaload, 1) := by decide +kernel
theorem d_Mod_sendHello_14 : decode b_Mod_sendHello 14 = .ok (.iconst 0, 1) := by decide +kernel
theorem d_Mod_sendHello_15 : decode b_Mod_sendHello 15 = .ok (.invokevirtual 121, 3) := by decide +kernel
theorem d_Mod_sendHello_18 : decode b_Mod_sendHello 18 = .ok (.aload_n 0, 1) := by decide +kernel
theorem d_Mod_sendHello_19 : decode b_Mod_sendHello 19 = .ok (.invokevirtual 125, 3) := by decide +kernel
theorem d_Mod_sendHello_22 : decode b_Mod_sendHello 22 = .ok (.return_, 1) := by decide +kernel
set_option maxRecDepth 100000 in
set_option maxHeartbeats 4000000 in
theorem c_Mod_sendHello (l : Launch) (K : Kx) (V : Vx) (A B C D : MI) (P : MP) (ms : MSt K V P) (N : List Msg) (hm : MN D N) (s : Nat) (hs : s < 2) : Ct l K md_Mod_sendHello (2, 43) 0 0 [.ref (K.ad 6 0), .int (nI s)] V (bk4 A B C D) P (MQ_ V A B P none C D (netput (m_hello C s) N)) := by
  refine ct_of [(0, .ref (K.ad 6 0)), (1, .int (nI s))] (by decide) (Nat.le_of_ble_eq_true rfl) (ca_r (ca_i ca_n)) rfl ?_
  intro X hl hX
  have h : OkX X b_Mod_sendHello R_Mod K := hX.1
  have hN : X.nL = 2 := hX.2.1
  have hmv := ms.1
  refine j_aload_n h d_Mod_sendHello_0 rfl ?_
  refine j_iconst (v := 2) h d_Mod_sendHello_1 (by decide) ?_
  refine j_iconst (v := 1) h d_Mod_sendHello_2 (by decide) ?_
  refine j_iload_n h d_Mod_sendHello_3 rfl ?_
  refine j_1s h hs d_Mod_sendHello_4 ?_
  refine j_iload_n h d_Mod_sendHello_5 rfl ?_
  refine j_iconst (v := 0) h d_Mod_sendHello_6 (by decide) ?_
  refine j_iconst (v := -1) h d_Mod_sendHello_7 (by decide) ?_
  refine j_aload_n h d_Mod_sendHello_8 rfl ?_
  refine j_getR h d_Mod_sendHello_9 fl_Mod_16 rfl (by assumption) (mP ms (a := 12) (by decide)) ?_
  refine j_iload_n h d_Mod_sendHello_12 rfl ?_
  refine m_iald2 (a := 12) (L := 2) (j := s) h ms d_Mod_sendHello_13 (by decide) rfl (by decide) rfl rfl (by omega) ?_
  refine j_iconst (v := 0) h d_Mod_sendHello_14 (by decide) ?_
  refine j_callV h (c_Mod_say _ _ _ _ _ _ _ _ ms _ _ _ _ _ _ _) d_Mod_sendHello_15 ml_Mod_121 mv_Mod_say (by assumption) ⟨rfl, rfl⟩ rfl rfl (Nat.le_of_ble_eq_true rfl) (hR_of hX (by decide) (by decide)) (hf_of hX (by decide) (by decide)) ?_
  rintro V2 _ _ P2 ⟨rfl, rfl, rfl, D1, rfl, hk1, hx1⟩
  have hm1 := MN_k hm hk1
  refine j_aload_n h d_Mod_sendHello_18 rfl ?_
  refine j_callV h (c_Mod_put _ _ _ _ _ _ _ _ ms _ (hm1) (m_hello C s) (hx1)) d_Mod_sendHello_19 ml_Mod_125 mv_Mod_put (by assumption) ⟨rfl, rfl⟩ rfl rfl (Nat.le_of_ble_eq_true rfl) (hR_of hX (by decide) (by decide)) (hf_of hX (by decide) (by decide)) ?_
  rintro V3 _ _ P3 ⟨rfl, rfl, rfl, D3, rfl, hk3, hm3⟩
  exact j_vret hX d_Mod_sendHello_22 rfl (Nat.le_refl _) (Nat.le_refl _) ⟨rfl, rfl, rfl, _, rfl, fun col i hc => (hk3 col i (by omega) (by omega)).trans (by first | exact hk1 col i (by omega) | (simp only [up_rd]; simp [show col ≠ 74 by omega]; exact hk1 col i (by omega))), hm3⟩
theorem d_Mod_sendUpdate_0 : decode b_Mod_sendUpdate 0 = .ok (.bipush 32, 2) := by decide +kernel
theorem d_Mod_sendUpdate_2 : decode b_Mod_sendUpdate 2 = .ok (.iload_n 1, 1) := by decide +kernel
theorem d_Mod_sendUpdate_3 : decode b_Mod_sendUpdate 3 = .ok (.imul, 1) := by decide +kernel
theorem d_Mod_sendUpdate_4 : decode b_Mod_sendUpdate 4 = .ok (.iload_n 2, 1) := by decide +kernel
theorem d_Mod_sendUpdate_5 : decode b_Mod_sendUpdate 5 = .ok (.iadd, 1) := by decide +kernel
theorem d_Mod_sendUpdate_6 : decode b_Mod_sendUpdate 6 = .ok (.istore_n 3, 1) := by decide +kernel
theorem d_Mod_sendUpdate_7 : decode b_Mod_sendUpdate 7 = .ok (.aload_n 0, 1) := by decide +kernel
theorem d_Mod_sendUpdate_8 : decode b_Mod_sendUpdate 8 = .ok (.iconst 3, 1) := by decide +kernel
theorem d_Mod_sendUpdate_9 : decode b_Mod_sendUpdate 9 = .ok (.iconst 1, 1) := by decide +kernel
theorem d_Mod_sendUpdate_10 : decode b_Mod_sendUpdate 10 = .ok (.iload_n 1, 1) := by decide +kernel
theorem d_Mod_sendUpdate_11 : decode b_Mod_sendUpdate 11 = .ok (.isub, 1) := by decide +kernel
theorem d_Mod_sendUpdate_12 : decode b_Mod_sendUpdate 12 = .ok (.iload_n 1, 1) := by decide +kernel
theorem d_Mod_sendUpdate_13 : decode b_Mod_sendUpdate 13 = .ok (.aload_n 0, 1) := by decide +kernel
theorem d_Mod_sendUpdate_14 : decode b_Mod_sendUpdate 14 = .ok (.getfield 34, 3) := by decide +kernel
theorem d_Mod_sendUpdate_17 : decode b_Mod_sendUpdate 17 = .ok (.iload_n 3, 1) := by decide +kernel
theorem d_Mod_sendUpdate_18 : decode b_Mod_sendUpdate 18 = .ok (.iaload, 1) := by decide +kernel
theorem d_Mod_sendUpdate_19 : decode b_Mod_sendUpdate 19 = .ok (.iload_n 2, 1) := by decide +kernel
theorem d_Mod_sendUpdate_20 : decode b_Mod_sendUpdate 20 = .ok (.aload_n 0, 1) := by decide +kernel
theorem d_Mod_sendUpdate_21 : decode b_Mod_sendUpdate 21 = .ok (.getfield 50, 3) := by decide +kernel
theorem d_Mod_sendUpdate_24 : decode b_Mod_sendUpdate 24 = .ok (.iload_n 3, 1) := by decide +kernel
theorem d_Mod_sendUpdate_25 : decode b_Mod_sendUpdate 25 = .ok (.iaload, 1) := by decide +kernel
theorem d_Mod_sendUpdate_26 : decode b_Mod_sendUpdate 26 = .ok (.aload_n 0, 1) := by decide +kernel
theorem d_Mod_sendUpdate_27 : decode b_Mod_sendUpdate 27 = .ok (.getfield 40, 3) := by decide +kernel
theorem d_Mod_sendUpdate_30 : decode b_Mod_sendUpdate 30 = .ok (.iload_n 3, 1) := by decide +kernel
theorem d_Mod_sendUpdate_31 : decode b_Mod_sendUpdate 31 = .ok (.iaload, 1) := by decide +kernel
theorem d_Mod_sendUpdate_32 : decode b_Mod_sendUpdate 32 = .ok (.invokevirtual 121, 3) := by decide +kernel
theorem d_Mod_sendUpdate_35 : decode b_Mod_sendUpdate 35 = .ok (.aload_n 0, 1) := by decide +kernel
theorem d_Mod_sendUpdate_36 : decode b_Mod_sendUpdate 36 = .ok (.getfield 92, 3) := by decide +kernel
theorem d_Mod_sendUpdate_39 : decode b_Mod_sendUpdate 39 = .ok (.bipush 7, 2) := by decide +kernel
theorem d_Mod_sendUpdate_41 : decode b_Mod_sendUpdate 41 = .ok (.aload_n 0, 1) := by decide +kernel
theorem d_Mod_sendUpdate_42 : decode b_Mod_sendUpdate 42 = .ok (.getfield 16, 3) := by decide +kernel
theorem d_Mod_sendUpdate_45 : decode b_Mod_sendUpdate 45 = .ok (.iload_n 1, 1) := by decide +kernel
theorem d_Mod_sendUpdate_46 : decode b_Mod_sendUpdate 46 = .ok (.iaload, 1) := by decide +kernel
theorem d_Mod_sendUpdate_47 : decode b_Mod_sendUpdate 47 = .ok (.iastore, 1) := by decide +kernel
theorem d_Mod_sendUpdate_48 : decode b_Mod_sendUpdate 48 = .ok (.aload_n 0, 1) := by decide +kernel
theorem d_Mod_sendUpdate_49 : decode b_Mod_sendUpdate 49 = .ok (.getfield 92, 3) := by decide +kernel
theorem d_Mod_sendUpdate_52 : decode b_Mod_sendUpdate 52 = .ok (.bipush 8, 2) := by decide +kernel
theorem d_Mod_sendUpdate_54 : decode b_Mod_sendUpdate 54 = .ok (.aload_n 0, 1) := by decide +kernel
theorem d_Mod_sendUpdate_55 : decode b_Mod_sendUpdate 55 = .ok (.getfield 22, 3) := by decide +kernel
theorem d_Mod_sendUpdate_58 : decode b_Mod_sendUpdate 58 = .ok (.iload_n 1, 1) := by decide +kernel
theorem d_Mod_sendUpdate_59 : decode b_Mod_sendUpdate 59 = .ok (.iaload, 1) := by decide +kernel
theorem d_Mod_sendUpdate_60 : decode b_Mod_sendUpdate 60 = .ok (.iastore, 1) := by decide +kernel
theorem d_Mod_sendUpdate_61 : decode b_Mod_sendUpdate 61 = .ok (.aload_n 0, 1) := by decide +kernel
theorem d_Mod_sendUpdate_62 : decode b_Mod_sendUpdate 62 = .ok (.getfield 92, 3) := by decide +kernel
theorem d_Mod_sendUpdate_65 : decode b_Mod_sendUpdate 65 = .ok (.bipush 9, 2) := by decide +kernel
theorem d_Mod_sendUpdate_67 : decode b_Mod_sendUpdate 67 = .ok (.aload_n 0, 1) := by decide +kernel
theorem d_Mod_sendUpdate_68 : decode b_Mod_sendUpdate 68 = .ok (.getfield 37, 3) := by decide +kernel
theorem d_Mod_sendUpdate_71 : decode b_Mod_sendUpdate 71 = .ok (.iload_n 3, 1) := by decide +kernel
theorem d_Mod_sendUpdate_72 : decode b_Mod_sendUpdate 72 = .ok (.iaload, 1) := by decide +kernel
theorem d_Mod_sendUpdate_73 : decode b_Mod_sendUpdate 73 = .ok (.iastore, 1) := by decide +kernel
theorem d_Mod_sendUpdate_74 : decode b_Mod_sendUpdate 74 = .ok (.aload_n 0, 1) := by decide +kernel
theorem d_Mod_sendUpdate_75 : decode b_Mod_sendUpdate 75 = .ok (.getfield 92, 3) := by decide +kernel
theorem d_Mod_sendUpdate_78 : decode b_Mod_sendUpdate 78 = .ok (.bipush 10, 2) := by decide +kernel
theorem d_Mod_sendUpdate_80 : decode b_Mod_sendUpdate 80 = .ok (.aload_n 0, 1) := by decide +kernel
theorem d_Mod_sendUpdate_81 : decode b_Mod_sendUpdate 81 = .ok (.getfield 43, 3) := by decide +kernel
theorem d_Mod_sendUpdate_84 : decode b_Mod_sendUpdate 84 = .ok (.iload_n 3, 1) := by decide +kernel
theorem d_Mod_sendUpdate_85 : decode b_Mod_sendUpdate 85 = .ok (.iaload, 1) := by decide +kernel
theorem d_Mod_sendUpdate_86 : decode b_Mod_sendUpdate 86 = .ok (.iastore, 1) := by decide +kernel
theorem d_Mod_sendUpdate_87 : decode b_Mod_sendUpdate 87 = .ok (.aload_n 0, 1) := by decide +kernel
theorem d_Mod_sendUpdate_88 : decode b_Mod_sendUpdate 88 = .ok (.getfield 92, 3) := by decide +kernel
theorem d_Mod_sendUpdate_91 : decode b_Mod_sendUpdate 91 = .ok (.bipush 11, 2) := by decide +kernel
theorem d_Mod_sendUpdate_93 : decode b_Mod_sendUpdate 93 = .ok (.aload_n 0, 1) := by decide +kernel
theorem d_Mod_sendUpdate_94 : decode b_Mod_sendUpdate 94 = .ok (.getfield 46, 3) := by decide +kernel
theorem d_Mod_sendUpdate_97 : decode b_Mod_sendUpdate 97 = .ok (.iload_n 3, 1) := by decide +kernel
theorem d_Mod_sendUpdate_98 : decode b_Mod_sendUpdate 98 = .ok (.baload, 1) := by decide +kernel
theorem d_Mod_sendUpdate_99 : decode b_Mod_sendUpdate 99 = .ok (.ifCond .eq 7, 3) := by decide +kernel
theorem d_Mod_sendUpdate_102 : decode b_Mod_sendUpdate 102 = .ok (.iconst 1, 1) := by decide +kernel
theorem d_Mod_sendUpdate_103 : decode b_Mod_sendUpdate 103 = .ok (.goto 4, 3) := by decide +kernel
theorem d_Mod_sendUpdate_106 : decode b_Mod_sendUpdate 106 = .ok (.iconst 0, 1) := by decide +kernel
theorem d_Mod_sendUpdate_107 : decode b_Mod_sendUpdate 107 = .ok (.iastore, 1) := by decide +kernel
theorem d_Mod_sendUpdate_108 : decode b_Mod_sendUpdate 108 = .ok (.aload_n 0, 1) := by decide +kernel
theorem d_Mod_sendUpdate_109 : decode b_Mod_sendUpdate 109 = .ok (.getfield 92, 3) := by decide +kernel
theorem d_Mod_sendUpdate_112 : decode b_Mod_sendUpdate 112 = .ok (.bipush 12, 2) := by decide +kernel
theorem d_Mod_sendUpdate_114 : decode b_Mod_sendUpdate 114 = .ok (.aload_n 0, 1) := by decide +kernel
theorem d_Mod_sendUpdate_115 : decode b_Mod_sendUpdate 115 = .ok (.getfield 62, 3) := by decide +kernel
theorem d_Mod_sendUpdate_118 : decode b_Mod_sendUpdate 118 = .ok (.iload_n 3, 1) := by decide +kernel
theorem d_Mod_sendUpdate_119 : decode b_Mod_sendUpdate 119 = .ok (.iaload, 1) := by decide +kernel
theorem d_Mod_sendUpdate_120 : decode b_Mod_sendUpdate 120 = .ok (.iastore, 1) := by decide +kernel
theorem d_Mod_sendUpdate_121 : decode b_Mod_sendUpdate 121 = .ok (.aload_n 0, 1) := by decide +kernel
theorem d_Mod_sendUpdate_122 : decode b_Mod_sendUpdate 122 = .ok (.getfield 92, 3) := by decide +kernel
theorem d_Mod_sendUpdate_125 : decode b_Mod_sendUpdate 125 = .ok (.bipush 13, 2) := by decide +kernel
theorem d_Mod_sendUpdate_127 : decode b_Mod_sendUpdate 127 = .ok (.aload_n 0, 1) := by decide +kernel
theorem d_Mod_sendUpdate_128 : decode b_Mod_sendUpdate 128 = .ok (.getfield 65, 3) := by decide +kernel
theorem d_Mod_sendUpdate_131 : decode b_Mod_sendUpdate 131 = .ok (.iload_n 3, 1) := by decide +kernel
theorem d_Mod_sendUpdate_132 : decode b_Mod_sendUpdate 132 = .ok (.iaload, 1) := by decide +kernel
theorem d_Mod_sendUpdate_133 : decode b_Mod_sendUpdate 133 = .ok (.iastore, 1) := by decide +kernel
theorem d_Mod_sendUpdate_134 : decode b_Mod_sendUpdate 134 = .ok (.aload_n 0, 1) := by decide +kernel
theorem d_Mod_sendUpdate_135 : decode b_Mod_sendUpdate 135 = .ok (.invokevirtual 125, 3) := by decide +kernel
theorem d_Mod_sendUpdate_138 : decode b_Mod_sendUpdate 138 = .ok (.return_, 1) := by decide +kernel
set_option maxRecDepth 100000 in
set_option maxHeartbeats 4000000 in
theorem c_Mod_sendUpdate (l : Launch) (K : Kx) (V : Vx) (A B C D : MI) (P : MP) (ms : MSt K V P) (N : List Msg) (hm : MN D N) (s : Nat) (hs : s < 2) (n a : Nat) (ha : a < n) (hn : n ≤ 32) (hz : C 14 (32 * s + a) = 0 ∨ C 14 (32 * s + a) = 1) : Ct l K md_Mod_sendUpdate (2, 43) 0 0 [.ref (K.ad 6 0), .int (nI s), .int (nI a)] V (bk4 A B C D) P (MQ_ V A B P none C D (netput (m_upd C s a) N)) := by
  refine ct_of [(0, .ref (K.ad 6 0)), (1, .int (nI s)), (2, .int (nI a))] (by decide) (Nat.le_of_ble_eq_true rfl) (ca_r (ca_i (ca_i ca_n))) rfl ?_
  intro X hl hX
  have h : OkX X b_Mod_sendUpdate R_Mod K := hX.1
  have hN : X.nL = 4 := hX.2.1
  have hmv := ms.1
  refine j_bipush (v := 32) h d_Mod_sendUpdate_0 (by decide) ?_
  refine j_iload_n h d_Mod_sendUpdate_2 rfl ?_
  refine j_imul h d_Mod_sendUpdate_3 ?_
  refine j_iload_n h d_Mod_sendUpdate_4 rfl ?_
  refine j_ix32 (s := s) (a := a) h d_Mod_sendUpdate_5 ?_
  refine j_istore_n h d_Mod_sendUpdate_6 (Nat.lt_of_lt_of_eq (m := 4) (by decide) hN.symm) ?_
  refine j_aload_n h d_Mod_sendUpdate_7 rfl ?_
  refine j_iconst (v := 3) h d_Mod_sendUpdate_8 (by decide) ?_
  refine j_iconst (v := 1) h d_Mod_sendUpdate_9 (by decide) ?_
  refine j_iload_n h d_Mod_sendUpdate_10 rfl ?_
  refine j_1s h hs d_Mod_sendUpdate_11 ?_
  refine j_iload_n h d_Mod_sendUpdate_12 rfl ?_
  refine j_aload_n h d_Mod_sendUpdate_13 rfl ?_
  refine j_getR h d_Mod_sendUpdate_14 fl_Mod_34 rfl (by assumption) (mP ms (a := 18) (by decide)) ?_
  refine j_iload_n h d_Mod_sendUpdate_17 rfl ?_
  refine m_iald2 (a := 18) (L := 64) (j := (32 * s + a)) h ms d_Mod_sendUpdate_18 (by decide) rfl (by decide) rfl rfl (by omega) ?_
  refine j_iload_n h d_Mod_sendUpdate_19 rfl ?_
  refine j_aload_n h d_Mod_sendUpdate_20 rfl ?_
  refine j_getR h d_Mod_sendUpdate_21 fl_Mod_50 rfl (by assumption) (mP ms (a := 23) (by decide)) ?_
  refine j_iload_n h d_Mod_sendUpdate_24 rfl ?_
  refine m_iald2 (a := 23) (L := 64) (j := (32 * s + a)) h ms d_Mod_sendUpdate_25 (by decide) rfl (by decide) rfl rfl (by omega) ?_
  refine j_aload_n h d_Mod_sendUpdate_26 rfl ?_
  refine j_getR h d_Mod_sendUpdate_27 fl_Mod_40 rfl (by assumption) (mP ms (a := 20) (by decide)) ?_
  refine j_iload_n h d_Mod_sendUpdate_30 rfl ?_
  refine m_iald2 (a := 20) (L := 64) (j := (32 * s + a)) h ms d_Mod_sendUpdate_31 (by decide) rfl (by decide) rfl rfl (by omega) ?_
  refine j_callV h (c_Mod_say _ _ _ _ _ _ _ _ ms _ _ _ _ _ _ _) d_Mod_sendUpdate_32 ml_Mod_121 mv_Mod_say (by assumption) ⟨rfl, rfl⟩ rfl rfl (Nat.le_of_ble_eq_true rfl) (hR_of hX (by decide) (by decide)) (hf_of hX (by decide) (by decide)) ?_
  rintro V2 _ _ P2 ⟨rfl, rfl, rfl, D1, rfl, hk1, hx1⟩
  have hm1 := MN_k hm hk1
  refine j_aload_n h d_Mod_sendUpdate_35 rfl ?_
  refine j_getR h d_Mod_sendUpdate_36 fl_Mod_92 rfl (by assumption) (mP ms (a := 37) (by decide)) ?_
  refine j_bipush (v := 7) h d_Mod_sendUpdate_39 (by decide) ?_
  refine j_aload_n h d_Mod_sendUpdate_41 rfl ?_
  refine j_getR h d_Mod_sendUpdate_42 fl_Mod_16 rfl (by assumption) (mP ms (a := 12) (by decide)) ?_
  refine j_iload_n h d_Mod_sendUpdate_45 rfl ?_
  refine m_iald2 (a := 12) (L := 2) (j := s) h ms d_Mod_sendUpdate_46 (by decide) rfl (by decide) rfl rfl (by omega) ?_
  refine m_iast3 (a := 37) (L := 14) (j := 7) h ms d_Mod_sendUpdate_47 (by decide) rfl (by decide) rfl rfl (by omega) ?_
  refine j_aload_n h d_Mod_sendUpdate_48 rfl ?_
  refine j_getR h d_Mod_sendUpdate_49 fl_Mod_92 rfl (by assumption) (mP ms (a := 37) (by decide)) ?_
  refine j_bipush (v := 8) h d_Mod_sendUpdate_52 (by decide) ?_
  refine j_aload_n h d_Mod_sendUpdate_54 rfl ?_
  refine j_getR h d_Mod_sendUpdate_55 fl_Mod_22 rfl (by assumption) (mP ms (a := 14) (by decide)) ?_
  refine j_iload_n h d_Mod_sendUpdate_58 rfl ?_
  refine m_iald2 (a := 14) (L := 2) (j := s) h ms d_Mod_sendUpdate_59 (by decide) rfl (by decide) rfl rfl (by omega) ?_
  refine m_iast3 (a := 37) (L := 14) (j := 8) h ms d_Mod_sendUpdate_60 (by decide) rfl (by decide) rfl rfl (by omega) ?_
  refine j_aload_n h d_Mod_sendUpdate_61 rfl ?_
  refine j_getR h d_Mod_sendUpdate_62 fl_Mod_92 rfl (by assumption) (mP ms (a := 37) (by decide)) ?_
  refine j_bipush (v := 9) h d_Mod_sendUpdate_65 (by decide) ?_
  refine j_aload_n h d_Mod_sendUpdate_67 rfl ?_
  refine j_getR h d_Mod_sendUpdate_68 fl_Mod_37 rfl (by assumption) (mP ms (a := 19) (by decide)) ?_
  refine j_iload_n h d_Mod_sendUpdate_71 rfl ?_
  refine m_iald2 (a := 19) (L := 64) (j := (32 * s + a)) h ms d_Mod_sendUpdate_72 (by decide) rfl (by decide) rfl rfl (by omega) ?_
  refine m_iast3 (a := 37) (L := 14) (j := 9) h ms d_Mod_sendUpdate_73 (by decide) rfl (by decide) rfl rfl (by omega) ?_
  refine j_aload_n h d_Mod_sendUpdate_74 rfl ?_
  refine j_getR h d_Mod_sendUpdate_75 fl_Mod_92 rfl (by assumption) (mP ms (a := 37) (by decide)) ?_
  refine j_bipush (v := 10) h d_Mod_sendUpdate_78 (by decide) ?_
  refine j_aload_n h d_Mod_sendUpdate_80 rfl ?_
  refine j_getR h d_Mod_sendUpdate_81 fl_Mod_43 rfl (by assumption) (mP ms (a := 21) (by decide)) ?_
  refine j_iload_n h d_Mod_sendUpdate_84 rfl ?_
  refine m_iald2 (a := 21) (L := 64) (j := (32 * s + a)) h ms d_Mod_sendUpdate_85 (by decide) rfl (by decide) rfl rfl (by omega) ?_
  refine m_iast3 (a := 37) (L := 14) (j := 10) h ms d_Mod_sendUpdate_86 (by decide) rfl (by decide) rfl rfl (by omega) ?_
  refine j_aload_n h d_Mod_sendUpdate_87 rfl ?_
  refine j_getR h d_Mod_sendUpdate_88 fl_Mod_92 rfl (by assumption) (mP ms (a := 37) (by decide)) ?_
  refine j_bipush (v := 11) h d_Mod_sendUpdate_91 (by decide) ?_
  refine j_aload_n h d_Mod_sendUpdate_93 rfl ?_
  refine j_getR h d_Mod_sendUpdate_94 fl_Mod_46 rfl (by assumption) (mP ms (a := 22) (by decide)) ?_
  refine j_iload_n h d_Mod_sendUpdate_97 rfl ?_
  refine m_zald2 (a := 22) (L := 64) (j := (32 * s + a)) h ms d_Mod_sendUpdate_98 (by decide) rfl (by decide) rfl rfl (by omega) ?_
  refine j_if_eq (tgt := 106) h d_Mod_sendUpdate_99 (by decide) (fun c1 => ?_) (fun c1 => ?_)
  · refine j_iconst (v := 0) h d_Mod_sendUpdate_106 (by decide) ?_
    refine m_iast3 (a := 37) (L := 14) (j := 11) h ms d_Mod_sendUpdate_107 (by decide) rfl (by decide) rfl rfl (by omega) ?_
    refine j_aload_n h d_Mod_sendUpdate_108 rfl ?_
    refine j_getR h d_Mod_sendUpdate_109 fl_Mod_92 rfl (by assumption) (mP ms (a := 37) (by decide)) ?_
    refine j_bipush (v := 12) h d_Mod_sendUpdate_112 (by decide) ?_
    refine j_aload_n h d_Mod_sendUpdate_114 rfl ?_
    refine j_getR h d_Mod_sendUpdate_115 fl_Mod_62 rfl (by assumption) (mP ms (a := 27) (by decide)) ?_
    refine j_iload_n h d_Mod_sendUpdate_118 rfl ?_
    refine m_iald2 (a := 27) (L := 64) (j := (32 * s + a)) h ms d_Mod_sendUpdate_119 (by decide) rfl (by decide) rfl rfl (by omega) ?_
    refine m_iast3 (a := 37) (L := 14) (j := 12) h ms d_Mod_sendUpdate_120 (by decide) rfl (by decide) rfl rfl (by omega) ?_
    refine j_aload_n h d_Mod_sendUpdate_121 rfl ?_
    refine j_getR h d_Mod_sendUpdate_122 fl_Mod_92 rfl (by assumption) (mP ms (a := 37) (by decide)) ?_
    refine j_bipush (v := 13) h d_Mod_sendUpdate_125 (by decide) ?_
    refine j_aload_n h d_Mod_sendUpdate_127 rfl ?_
    refine j_getR h d_Mod_sendUpdate_128 fl_Mod_65 rfl (by assumption) (mP ms (a := 28) (by decide)) ?_
    refine j_iload_n h d_Mod_sendUpdate_131 rfl ?_
    refine m_iald2 (a := 28) (L := 64) (j := (32 * s + a)) h ms d_Mod_sendUpdate_132 (by decide) rfl (by decide) rfl rfl (by omega) ?_
    refine m_iast3 (a := 37) (L := 14) (j := 13) h ms d_Mod_sendUpdate_133 (by decide) rfl (by decide) rfl rfl (by omega) ?_
    refine j_aload_n h d_Mod_sendUpdate_134 rfl ?_
    refine j_callV h (c_Mod_put _ _ _ _ _ _ _ _ ms _ (MN_k hm1 (fun col i hc => by simp only [up_rd]; simp [hc])) (m_upd C s a) (by intro w hw; have e := hx1 w hw; simp only [up_rd]; rcases (show w = 0 ∨ w = 1 ∨ w = 2 ∨ w = 3 ∨ w = 4 ∨ w = 5 ∨ w = 6 ∨ w = 7 ∨ w = 8 ∨ w = 9 ∨ w = 10 ∨ w = 11 ∨ w = 12 ∨ w = 13 by omega) with rfl | rfl | rfl | rfl | rfl | rfl | rfl | rfl | rfl | rfl | rfl | rfl | rfl | rfl <;> simp_all [m_upd, mk7])) d_Mod_sendUpdate_135 ml_Mod_125 mv_Mod_put (by assumption) ⟨rfl, rfl⟩ rfl rfl (Nat.le_of_ble_eq_true rfl) (hR_of hX (by decide) (by decide)) (hf_of hX (by decide) (by decide)) ?_
    rintro V3 _ _ P3 ⟨rfl, rfl, rfl, D3, rfl, hk3, hm3⟩
    exact j_vret hX d_Mod_sendUpdate_138 rfl (Nat.le_refl _) (Nat.le_refl _) ⟨rfl, rfl, rfl, _, rfl, fun col i hc => (hk3 col i (by omega) (by omega)).trans (by first | exact hk1 col i (by omega) | (simp only [up_rd]; simp [show col ≠ 74 by omega]; exact hk1 col i (by omega))), hm3⟩
  · refine j_iconst (v := 1) h d_Mod_sendUpdate_102 (by decide) ?_
    refine j_goto (tgt := 107) h d_Mod_sendUpdate_103 (by decide) ?_
    refine m_iast3 (a := 37) (L := 14) (j := 11) h ms d_Mod_sendUpdate_107 (by decide) rfl (by decide) rfl rfl (by omega) ?_
    refine j_aload_n h d_Mod_sendUpdate_108 rfl ?_
    refine j_getR h d_Mod_sendUpdate_109 fl_Mod_92 rfl (by assumption) (mP ms (a := 37) (by decide)) ?_
    refine j_bipush (v := 12) h d_Mod_sendUpdate_112 (by decide) ?_
    refine j_aload_n h d_Mod_sendUpdate_114 rfl ?_
    refine j_getR h d_Mod_sendUpdate_115 fl_Mod_62 rfl (by assumption) (mP ms (a := 27) (by decide)) ?_
    refine j_iload_n h d_Mod_sendUpdate_118 rfl ?_
    refine m_iald2 (a := 27) (L := 64) (j := (32 * s + a)) h ms d_Mod_sendUpdate_119 (by decide) rfl (by decide) rfl rfl (by omega) ?_
    refine m_iast3 (a := 37) (L := 14) (j := 12) h ms d_Mod_sendUpdate_120 (by decide) rfl (by decide) rfl rfl (by omega) ?_
    refine j_aload_n h d_Mod_sendUpdate_121 rfl ?_
    refine j_getR h d_Mod_sendUpdate_122 fl_Mod_92 rfl (by assumption) (mP ms (a := 37) (by decide)) ?_
    refine j_bipush (v := 13) h d_Mod_sendUpdate_125 (by decide) ?_
    refine j_aload_n h d_Mod_sendUpdate_127 rfl ?_
    refine j_getR h d_Mod_sendUpdate_128 fl_Mod_65 rfl (by assumption) (mP ms (a := 28) (by decide)) ?_
    refine j_iload_n h d_Mod_sendUpdate_131 rfl ?_
    refine m_iald2 (a := 28) (L := 64) (j := (32 * s + a)) h ms d_Mod_sendUpdate_132 (by decide) rfl (by decide) rfl rfl (by omega) ?_
    refine m_iast3 (a := 37) (L := 14) (j := 13) h ms d_Mod_sendUpdate_133 (by decide) rfl (by decide) rfl rfl (by omega) ?_
    refine j_aload_n h d_Mod_sendUpdate_134 rfl ?_
    refine j_callV h (c_Mod_put _ _ _ _ _ _ _ _ ms _ (MN_k hm1 (fun col i hc => by simp only [up_rd]; simp [hc])) (m_upd C s a) (by intro w hw; have e := hx1 w hw; simp only [up_rd]; rcases (show w = 0 ∨ w = 1 ∨ w = 2 ∨ w = 3 ∨ w = 4 ∨ w = 5 ∨ w = 6 ∨ w = 7 ∨ w = 8 ∨ w = 9 ∨ w = 10 ∨ w = 11 ∨ w = 12 ∨ w = 13 by omega) with rfl | rfl | rfl | rfl | rfl | rfl | rfl | rfl | rfl | rfl | rfl | rfl | rfl | rfl <;> simp_all [m_upd, mk7])) d_Mod_sendUpdate_135 ml_Mod_125 mv_Mod_put (by assumption) ⟨rfl, rfl⟩ rfl rfl (Nat.le_of_ble_eq_true rfl) (hR_of hX (by decide) (by decide)) (hf_of hX (by decide) (by decide)) ?_
    rintro V3 _ _ P3 ⟨rfl, rfl, rfl, D3, rfl, hk3, hm3⟩
    exact j_vret hX d_Mod_sendUpdate_138 rfl (Nat.le_refl _) (Nat.le_refl _) ⟨rfl, rfl, rfl, _, rfl, fun col i hc => (hk3 col i (by omega) (by omega)).trans (by first | exact hk1 col i (by omega) | (simp only [up_rd]; simp [show col ≠ 74 by omega]; exact hk1 col i (by omega))), hm3⟩
theorem d_Mod_sendAck_0 : decode b_Mod_sendAck 0 = .ok (.aload_n 0, 1) := by decide +kernel
theorem d_Mod_sendAck_1 : decode b_Mod_sendAck 1 = .ok (.iconst 4, 1) := by decide +kernel
theorem d_Mod_sendAck_2 : decode b_Mod_sendAck 2 = .ok (.iconst 1, 1) := by decide +kernel
theorem d_Mod_sendAck_3 : decode b_Mod_sendAck 3 = .ok (.iload_n 1, 1) := by decide +kernel
theorem d_Mod_sendAck_4 : decode b_Mod_sendAck 4 = .ok (.isub, 1) := by decide +kernel
theorem d_Mod_sendAck_5 : decode b_Mod_sendAck 5 = .ok (.iload_n 1, 1) := by decide +kernel
theorem d_Mod_sendAck_6 : decode b_Mod_sendAck 6 = .ok (.iconst 0, 1) := by decide +kernel
theorem d_Mod_sendAck_7 : decode b_Mod_sendAck 7 = .ok (.iload_n 2, 1) := by decide +kernel
theorem d_Mod_sendAck_8 : decode b_Mod_sendAck 8 = .ok (.iload_n 3, 1) := by decide +kernel
theorem d_Mod_sendAck_9 : decode b_Mod_sendAck 9 = .ok (.iload 4, 2) := by decide +kernel
theorem d_Mod_sendAck_11 : decode b_Mod_sendAck 11 = .ok (.invokevirtual 121, 3) := by decide +kernel
theorem d_Mod_sendAck_14 : decode b_Mod_sendAck 14 = .ok (.aload_n 0, 1) := by decide +kernel
theorem d_Mod_sendAck_15 : decode b_Mod_sendAck 15 = .ok (.getfield 92, 3) := by decide +kernel
theorem d_Mod_sendAck_18 : decode b_Mod_sendAck 18 = .ok (.bipush 7, 2) := by decide +kernel
theorem d_Mod_sendAck_20 : decode b_Mod_sendAck 20 = .ok (.aload_n 0, 1) := by decide +kernel
theorem d_Mod_sendAck_21 : decode b_Mod_sendAck 21 = .ok (.getfield 16, 3) := by decide +kernel
theorem d_Mod_sendAck_24 : decode b_Mod_sendAck 24 = .ok (.iload_n 1, 1) := by decide +kernel
theorem d_Mod_sendAck_25 : decode b_Mod_sendAck 25 = .ok (.iaload, 1) := by decide +kernel
theorem d_Mod_sendAck_26 : decode b_Mod_sendAck 26 = .ok (.iastore, 1) := by decide +kernel
theorem d_Mod_sendAck_27 : decode b_Mod_sendAck 27 = .ok (.aload_n 0, 1) := by decide +kernel
theorem d_Mod_sendAck_28 : decode b_Mod_sendAck 28 = .ok (.getfield 92, 3) := by decide +kernel
theorem d_Mod_sendAck_31 : decode b_Mod_sendAck 31 = .ok (.bipush 8, 2) := by decide +kernel
theorem d_Mod_sendAck_33 : decode b_Mod_sendAck 33 = .ok (.aload_n 0, 1) := by decide +kernel
theorem d_Mod_sendAck_34 : decode b_Mod_sendAck 34 = .ok (.getfield 50, 3) := by decide +kernel
theorem d_Mod_sendAck_37 : decode b_Mod_sendAck 37 = .ok (.bipush 32, 2) := by decide +kernel
theorem d_Mod_sendAck_39 : decode b_Mod_sendAck 39 = .ok (.iload_n 1, 1) := by decide +kernel
theorem d_Mod_sendAck_40 : decode b_Mod_sendAck 40 = .ok (.imul, 1) := by decide +kernel
theorem d_Mod_sendAck_41 : decode b_Mod_sendAck 41 = .ok (.iload_n 2, 1) := by decide +kernel
theorem d_Mod_sendAck_42 : decode b_Mod_sendAck 42 = .ok (.iadd, 1) := by decide +kernel
theorem d_Mod_sendAck_43 : decode b_Mod_sendAck 43 = .ok (.iaload, 1) := by decide +kernel
theorem d_Mod_sendAck_44 : decode b_Mod_sendAck 44 = .ok (.iastore, 1) := by decide +kernel
theorem d_Mod_sendAck_45 : decode b_Mod_sendAck 45 = .ok (.aload_n 0, 1) := by decide +kernel
theorem d_Mod_sendAck_46 : decode b_Mod_sendAck 46 = .ok (.invokevirtual 125, 3) := by decide +kernel
theorem d_Mod_sendAck_49 : decode b_Mod_sendAck 49 = .ok (.return_, 1) := by decide +kernel
set_option maxRecDepth 100000 in
set_option maxHeartbeats 4000000 in
theorem c_Mod_sendAck (l : Launch) (K : Kx) (V : Vx) (A B C D : MI) (P : MP) (ms : MSt K V P) (N : List Msg) (hm : MN D N) (s : Nat) (hs : s < 2) (n a : Nat) (ha : a < n) (hn : n ≤ 32) (p q : Int32) : Ct l K md_Mod_sendAck (2, 43) 0 0 [.ref (K.ad 6 0), .int (nI s), .int (nI a), .int p, .int q] V (bk4 A B C D) P (MQ_ V A B P none C D (netput (m_ack C s a p q) N)) := by
  refine ct_of [(0, .ref (K.ad 6 0)), (1, .int (nI s)), (2, .int (nI a)), (3, .int p), (4, .int q)] (by decide) (Nat.le_of_ble_eq_true rfl) (ca_r (ca_i (ca_i (ca_i (ca_i ca_n))))) rfl ?_
  intro X hl hX
  have h : OkX X b_Mod_sendAck R_Mod K := hX.1
  have hN : X.nL = 5 := hX.2.1
  have hmv := ms.1
  refine j_aload_n h d_Mod_sendAck_0 rfl ?_
  refine j_iconst (v := 4) h d_Mod_sendAck_1 (by decide) ?_
  refine j_iconst (v := 1) h d_Mod_sendAck_2 (by decide) ?_
  refine j_iload_n h d_Mod_sendAck_3 rfl ?_
  refine j_1s h hs d_Mod_sendAck_4 ?_
  refine j_iload_n h d_Mod_sendAck_5 rfl ?_
  refine j_iconst (v := 0) h d_Mod_sendAck_6 (by decide) ?_
  refine j_iload_n h d_Mod_sendAck_7 rfl ?_
  refine j_iload_n h d_Mod_sendAck_8 rfl ?_
  refine j_iload h d_Mod_sendAck_9 rfl ?_
  refine j_callV h (c_Mod_say _ _ _ _ _ _ _ _ ms _ _ _ _ _ _ _) d_Mod_sendAck_11 ml_Mod_121 mv_Mod_say (by assumption) ⟨rfl, rfl⟩ rfl rfl (Nat.le_of_ble_eq_true rfl) (hR_of hX (by decide) (by decide)) (hf_of hX (by decide) (by decide)) ?_
  rintro V2 _ _ P2 ⟨rfl, rfl, rfl, D1, rfl, hk1, hx1⟩
  have hm1 := MN_k hm hk1
  refine j_aload_n h d_Mod_sendAck_14 rfl ?_
  refine j_getR h d_Mod_sendAck_15 fl_Mod_92 rfl (by assumption) (mP ms (a := 37) (by decide)) ?_
  refine j_bipush (v := 7) h d_Mod_sendAck_18 (by decide) ?_
  refine j_aload_n h d_Mod_sendAck_20 rfl ?_
  refine j_getR h d_Mod_sendAck_21 fl_Mod_16 rfl (by assumption) (mP ms (a := 12) (by decide)) ?_
  refine j_iload_n h d_Mod_sendAck_24 rfl ?_
  refine m_iald2 (a := 12) (L := 2) (j := s) h ms d_Mod_sendAck_25 (by decide) rfl (by decide) rfl rfl (by omega) ?_
  refine m_iast3 (a := 37) (L := 14) (j := 7) h ms d_Mod_sendAck_26 (by decide) rfl (by decide) rfl rfl (by omega) ?_
  refine j_aload_n h d_Mod_sendAck_27 rfl ?_
  refine j_getR h d_Mod_sendAck_28 fl_Mod_92 rfl (by assumption) (mP ms (a := 37) (by decide)) ?_
  refine j_bipush (v := 8) h d_Mod_sendAck_31 (by decide) ?_
  refine j_aload_n h d_Mod_sendAck_33 rfl ?_
  refine j_getR h d_Mod_sendAck_34 fl_Mod_50 rfl (by assumption) (mP ms (a := 23) (by decide)) ?_
  refine j_bipush (v := 32) h d_Mod_sendAck_37 (by decide) ?_
  refine j_iload_n h d_Mod_sendAck_39 rfl ?_
  refine j_imul h d_Mod_sendAck_40 ?_
  refine j_iload_n h d_Mod_sendAck_41 rfl ?_
  refine j_ix32 (s := s) (a := a) h d_Mod_sendAck_42 ?_
  refine m_iald2 (a := 23) (L := 64) (j := (32 * s + a)) h ms d_Mod_sendAck_43 (by decide) rfl (by decide) rfl rfl (by omega) ?_
  refine m_iast3 (a := 37) (L := 14) (j := 8) h ms d_Mod_sendAck_44 (by decide) rfl (by decide) rfl rfl (by omega) ?_
  refine j_aload_n h d_Mod_sendAck_45 rfl ?_
  refine j_callV h (c_Mod_put _ _ _ _ _ _ _ _ ms _ (MN_k hm1 (fun col i hc => by simp only [up_rd]; simp [hc])) (m_ack C s a p q) (by intro w hw; have e := hx1 w hw; simp only [up_rd]; rcases (show w = 0 ∨ w = 1 ∨ w = 2 ∨ w = 3 ∨ w = 4 ∨ w = 5 ∨ w = 6 ∨ w = 7 ∨ w = 8 ∨ w = 9 ∨ w = 10 ∨ w = 11 ∨ w = 12 ∨ w = 13 by omega) with rfl | rfl | rfl | rfl | rfl | rfl | rfl | rfl | rfl | rfl | rfl | rfl | rfl | rfl <;> simp_all [m_ack, mk7])) d_Mod_sendAck_46 ml_Mod_125 mv_Mod_put (by assumption) ⟨rfl, rfl⟩ rfl rfl (Nat.le_of_ble_eq_true rfl) (hR_of hX (by decide) (by decide)) (hf_of hX (by decide) (by decide)) ?_
  rintro V3 _ _ P3 ⟨rfl, rfl, rfl, D3, rfl, hk3, hm3⟩
  exact j_vret hX d_Mod_sendAck_49 rfl (Nat.le_refl _) (Nat.le_refl _) ⟨rfl, rfl, rfl, _, rfl, fun col i hc => (hk3 col i (by omega) (by omega)).trans (by first | exact hk1 col i (by omega) | (simp only [up_rd]; simp [show col ≠ 74 by omega]; exact hk1 col i (by omega))), hm3⟩

theorem d_Mod_answer_0 : decode b_Mod_answer 0 = .ok (.aload_n 0, 1) := by decide +kernel
theorem d_Mod_answer_1 : decode b_Mod_answer 1 = .ok (.iconst 1, 1) := by decide +kernel
theorem d_Mod_answer_2 : decode b_Mod_answer 2 = .ok (.iload_n 2, 1) := by decide +kernel
theorem d_Mod_answer_3 : decode b_Mod_answer 3 = .ok (.iload_n 1, 1) := by decide +kernel
theorem d_Mod_answer_4 : decode b_Mod_answer 4 = .ok (.iload_n 3, 1) := by decide +kernel
theorem d_Mod_answer_5 : decode b_Mod_answer 5 = .ok (.ifCond .eq 7, 3) := by decide +kernel
theorem d_Mod_answer_8 : decode b_Mod_answer 8 = .ok (.iconst 1, 1) := by decide +kernel
theorem d_Mod_answer_9 : decode b_Mod_answer 9 = .ok (.goto 4, 3) := by decide +kernel
theorem d_Mod_answer_12 : decode b_Mod_answer 12 = .ok (.iconst 0, 1) := by decide +kernel
theorem d_Mod_answer_13 : decode b_Mod_answer 13 = .ok (.iload_n 3, 1) := by decide +kernel
theorem d_Mod_answer_14 : decode b_Mod_answer 14 = .ok (.ifCond .eq 8, 3) := by decide +kernel
theorem d_Mod_answer_17 : decode b_Mod_answer 17 = .ok (.iload 4, 2) := by decide +kernel
theorem d_Mod_answer_19 : decode b_Mod_answer 19 = .ok (.goto 4, 3) := by decide +kernel
theorem d_Mod_answer_22 : decode b_Mod_answer 22 = .ok (.iconst (-1), 1) := by decide +kernel
theorem d_Mod_answer_23 : decode b_Mod_answer 23 = .ok (.iload 5, 2) := by decide +kernel
theorem d_Mod_answer_25 : decode b_Mod_answer 25 = .ok (.iload_n 3, 1) := by decide +kernel
theorem d_Mod_answer_26 : decode b_Mod_answer 26 = .ok (.ifCond .eq 8, 3) := by decide +kernel
theorem d_Mod_answer_29 : decode b_Mod_answer 29 = .ok (.iload 6, 2) := by decide +kernel
theorem d_Mod_answer_31 : decode b_Mod_answer 31 = .ok (.goto 4, 3) := by decide +kernel
theorem d_Mod_answer_34 : decode b_Mod_answer 34 = .ok (.iconst 0, 1) := by decide +kernel
theorem d_Mod_answer_35 : decode b_Mod_answer 35 = .ok (.invokevirtual 121, 3) := by decide +kernel
theorem d_Mod_answer_38 : decode b_Mod_answer 38 = .ok (.aload_n 0, 1) := by decide +kernel
theorem d_Mod_answer_39 : decode b_Mod_answer 39 = .ok (.invokevirtual 125, 3) := by decide +kernel
theorem d_Mod_answer_42 : decode b_Mod_answer 42 = .ok (.return_, 1) := by decide +kernel
set_option maxRecDepth 100000 in
set_option maxHeartbeats 4000000 in
theorem c_Mod_answer_no (l : Launch) (K : Kx) (V : Vx) (A B C D : MI) (P : MP) (ms : MSt K V P) (N : List Msg) (hm : MN D N) (s : Nat) (hs : s < 2) (c w num e : Int32) : Ct l K md_Mod_answer (2, 43) 0 0 [.ref (K.ad 6 0), .int (nI s), .int c, .int 0, .int w, .int num, .int e] V (bk4 A B C D) P (MQ_ V A B P none C D (netput (m_ans s c num 0 (-1) 0) N)) := by
  refine ct_of [(0, .ref (K.ad 6 0)), (1, .int (nI s)), (2, .int c), (3, .int 0), (4, .int w), (5, .int num), (6, .int e)] (by decide) (Nat.le_of_ble_eq_true rfl) (ca_r (ca_i (ca_i (ca_i (ca_i (ca_i (ca_i ca_n))))))) rfl ?_
  intro X hl hX
  have h : OkX X b_Mod_answer R_Mod K := hX.1
  have hN : X.nL = 7 := hX.2.1
  have hmv := ms.1
  refine j_aload_n h d_Mod_answer_0 rfl ?_
  refine j_iconst (v := 1) h d_Mod_answer_1 (by decide) ?_
  refine j_iload_n h d_Mod_answer_2 rfl ?_
  refine j_iload_n h d_Mod_answer_3 rfl ?_
  refine j_iload_n h d_Mod_answer_4 rfl ?_
  refine j_if_eq (tgt := 12) h d_Mod_answer_5 (by decide) (fun c1 => ?_) (fun c1 => absurd c1 (by decide))
  refine j_iconst (v := 0) h d_Mod_answer_12 (by decide) ?_
  refine j_iload_n h d_Mod_answer_13 rfl ?_
  refine j_if_eq (tgt := 22) h d_Mod_answer_14 (by decide) (fun c2 => ?_) (fun c2 => absurd c2 (by decide))
  refine j_iconst (v := -1) h d_Mod_answer_22 (by decide) ?_
  refine j_iload h d_Mod_answer_23 rfl ?_
  refine j_iload_n h d_Mod_answer_25 rfl ?_
  refine j_if_eq (tgt := 34) h d_Mod_answer_26 (by decide) (fun c3 => ?_) (fun c3 => absurd c3 (by decide))
  refine j_iconst (v := 0) h d_Mod_answer_34 (by decide) ?_
  refine j_callV h (c_Mod_say _ _ _ _ _ _ _ _ ms _ _ _ _ _ _ _) d_Mod_answer_35 ml_Mod_121 mv_Mod_say (by assumption) ⟨rfl, rfl⟩ rfl rfl (Nat.le_of_ble_eq_true rfl) (hR_of hX (by decide) (by decide)) (hf_of hX (by decide) (by decide)) ?_
  rintro V2 _ _ P2 ⟨rfl, rfl, rfl, D1, rfl, hk1, hx1⟩
  have hm1 := MN_k hm hk1
  refine j_aload_n h d_Mod_answer_38 rfl ?_
  refine j_callV h (c_Mod_put _ _ _ _ _ _ _ _ ms _ (hm1) (m_ans s c num 0 (-1) 0) (hx1)) d_Mod_answer_39 ml_Mod_125 mv_Mod_put (by assumption) ⟨rfl, rfl⟩ rfl rfl (Nat.le_of_ble_eq_true rfl) (hR_of hX (by decide) (by decide)) (hf_of hX (by decide) (by decide)) ?_
  rintro V3 _ _ P3 ⟨rfl, rfl, rfl, D3, rfl, hk3, hm3⟩
  exact j_vret hX d_Mod_answer_42 rfl (Nat.le_refl _) (Nat.le_refl _) ⟨rfl, rfl, rfl, _, rfl, fun col i hc => (hk3 col i (by omega) (by omega)).trans (by first | exact hk1 col i (by omega) | (simp only [up_rd]; simp [show col ≠ 74 by omega]; exact hk1 col i (by omega))), hm3⟩
set_option maxRecDepth 100000 in
set_option maxHeartbeats 4000000 in
theorem c_Mod_answer_yes (l : Launch) (K : Kx) (V : Vx) (A B C D : MI) (P : MP) (ms : MSt K V P) (N : List Msg) (hm : MN D N) (s : Nat) (hs : s < 2) (c w num e : Int32) : Ct l K md_Mod_answer (2, 43) 0 0 [.ref (K.ad 6 0), .int (nI s), .int c, .int 1, .int w, .int num, .int e] V (bk4 A B C D) P (MQ_ V A B P none C D (netput (m_ans s c num 1 w e) N)) := by
  refine ct_of [(0, .ref (K.ad 6 0)), (1, .int (nI s)), (2, .int c), (3, .int 1), (4, .int w), (5, .int num), (6, .int e)] (by decide) (Nat.le_of_ble_eq_true rfl) (ca_r (ca_i (ca_i (ca_i (ca_i (ca_i (ca_i ca_n))))))) rfl ?_
  intro X hl hX
  have h : OkX X b_Mod_answer R_Mod K := hX.1
  have hN : X.nL = 7 := hX.2.1
  have hmv := ms.1
  refine j_aload_n h d_Mod_answer_0 rfl ?_
  refine j_iconst (v := 1) h d_Mod_answer_1 (by decide) ?_
  refine j_iload_n h d_Mod_answer_2 rfl ?_
  refine j_iload_n h d_Mod_answer_3 rfl ?_
  refine j_iload_n h d_Mod_answer_4 rfl ?_
  refine j_if_eq (tgt := 12) h d_Mod_answer_5 (by decide) (fun c1 => absurd c1 (by decide)) (fun c1 => ?_)
  refine j_iconst (v := 1) h d_Mod_answer_8 (by decide) ?_
  refine j_goto (tgt := 13) h d_Mod_answer_9 (by decide) ?_
  refine j_iload_n h d_Mod_answer_13 rfl ?_
  refine j_if_eq (tgt := 22) h d_Mod_answer_14 (by decide) (fun c2 => absurd c2 (by decide)) (fun c2 => ?_)
  refine j_iload h d_Mod_answer_17 rfl ?_
  refine j_goto (tgt := 23) h d_Mod_answer_19 (by decide) ?_
  refine j_iload h d_Mod_answer_23 rfl ?_
  refine j_iload_n h d_Mod_answer_25 rfl ?_
  refine j_if_eq (tgt := 34) h d_Mod_answer_26 (by decide) (fun c3 => absurd c3 (by decide)) (fun c3 => ?_)
  refine j_iload h d_Mod_answer_29 rfl ?_
  refine j_goto (tgt := 35) h d_Mod_answer_31 (by decide) ?_
  refine j_callV h (c_Mod_say _ _ _ _ _ _ _ _ ms _ _ _ _ _ _ _) d_Mod_answer_35 ml_Mod_121 mv_Mod_say (by assumption) ⟨rfl, rfl⟩ rfl rfl (Nat.le_of_ble_eq_true rfl) (hR_of hX (by decide) (by decide)) (hf_of hX (by decide) (by decide)) ?_
  rintro V2 _ _ P2 ⟨rfl, rfl, rfl, D1, rfl, hk1, hx1⟩
  have hm1 := MN_k hm hk1
  refine j_aload_n h d_Mod_answer_38 rfl ?_
  refine j_callV h (c_Mod_put _ _ _ _ _ _ _ _ ms _ (hm1) (m_ans s c num 1 w e) (hx1)) d_Mod_answer_39 ml_Mod_125 mv_Mod_put (by assumption) ⟨rfl, rfl⟩ rfl rfl (Nat.le_of_ble_eq_true rfl) (hR_of hX (by decide) (by decide)) (hf_of hX (by decide) (by decide)) ?_
  rintro V3 _ _ P3 ⟨rfl, rfl, rfl, D3, rfl, hk3, hm3⟩
  exact j_vret hX d_Mod_answer_42 rfl (Nat.le_refl _) (Nat.le_refl _) ⟨rfl, rfl, rfl, _, rfl, fun col i hc => (hk3 col i (by omega) (by omega)).trans (by first | exact hk1 col i (by omega) | (simp only [up_rd]; simp [show col ≠ 74 by omega]; exact hk1 col i (by omega))), hm3⟩
