/-! the model: its net -/
/-- the model's net holds N -/
def MN (D : MI) (N : List Msg) : Prop := N.length ≤ 300 ∧ D 71 0 = nI N.length ∧ ∀ k x, N[k]? = some x → ∀ w, w < 14 → D 72 (14 * k + w) = x w
/-- only the columns of the net and of what is said have moved -/
def DK (D D' : MI) : Prop := ∀ col i, (col < 71 ∨ col = 73 ∨ 75 ≤ col) → D' col i = D col i
theorem DK.refl (D : MI) : DK D D := fun _ _ _ => rfl
theorem DK.trans {D D1 D2 : MI} (h : DK D D1) (g : DK D1 D2) : DK D D2 := fun c i k => (g c i k).trans (h c i k)
def MQ_ (V : Vx) (A B : MI) (P : MP) (r : Option Value) (C : MI) (D : MI) (N : List Msg) : Px := fun V' r' I' P' => V' = V ∧ r' = r ∧ P' = P ∧ ∃ D', I' = bk4 A B C D' ∧ DK D D' ∧ MN D' N
section JM2
variable {X : Jx} {cc : ByteArray} {own : String} {K : Kx} {V : Vx} {A B C D : MI} {P : MP} {cells slots pc : Nat} {lv : List (Nat × Value)} {st : List Value}
theorem j_ml14 (h : OkX X cc own K) {s : Nat} (d : decode cc pc = .ok (.imul, 1)) (k : J X K V (bk4 A B C D) P cells slots (pc + 1) lv (.int (nI (14 * s)) :: st)) : J X K V (bk4 A B C D) P cells slots pc lv (.int (nI s) :: .int 14 :: st) :=
  j_imul h d (by rw [nI_mul] at k; exact k)
theorem nI_subn {a b : Nat} (h : b ≤ a) : nI a - nI b = nI (a - b) := by
  have e : nI a = nI (a - b) + nI b := by rw [nI_add, Nat.sub_add_cancel h]
  rw [e]
  exact Int32.add_sub_cancel _ _
theorem j_sb14 (h : OkX X cc own K) {s : Nat} (hs : 14 ≤ s) (d : decode cc pc = .ok (.isub, 1)) (k : J X K V (bk4 A B C D) P cells slots (pc + 1) lv (.int (nI (s - 14)) :: st)) : J X K V (bk4 A B C D) P cells slots pc lv (.int 14 :: .int (nI s) :: st) :=
  j_isub h d (by rw [← nI_subn hs] at k; exact k)
theorem j_ad1 (h : OkX X cc own K) {s : Nat} (d : decode cc pc = .ok (.iadd, 1)) (k : J X K V (bk4 A B C D) P cells slots (pc + 1) lv (.int (nI (s + 1)) :: st)) : J X K V (bk4 A B C D) P cells slots pc lv (.int 1 :: .int (nI s) :: st) :=
  j_iadd h d (by rw [← nI_i] at k; exact k)
theorem j_sb1 (h : OkX X cc own K) {s : Nat} (hs : 1 ≤ s) (d : decode cc pc = .ok (.isub, 1)) (k : J X K V (bk4 A B C D) P cells slots (pc + 1) lv (.int (nI (s - 1)) :: st)) : J X K V (bk4 A B C D) P cells slots pc lv (.int 1 :: .int (nI s) :: st) :=
  j_isub h d (by rw [← nI_subn hs] at k; exact k)
end JM2
/-- a step of moving words to the front -/
def shf (D : MI) (p j : Nat) (D1 : MI) : Prop := (∀ i, D1 72 i = if p ≤ i ∧ i + 14 < j then D 72 (i + 14) else D 72 i) ∧ ∀ col i, col ≠ 72 → D1 col i = D col i
theorem shf_s {D D1 : MI} {p j : Nat} (h : shf D p j D1) (hj : p + 14 ≤ j) : shf D p (j + 1) (up D1 72 (j - 14) (D1 72 j)) := by
  refine ⟨fun i => ?_, fun col i hc => ?_⟩
  · rw [up_rd]
    split
    · rename_i e
      rw [if_pos (by omega), h.1 j, if_neg (by omega), show i + 14 = j by omega]
    · rename_i e
      rw [h.1 i]
      by_cases h1 : p ≤ i ∧ i + 14 < j
      · rw [if_pos h1, if_pos (by omega)]
      · rw [if_neg h1, if_neg (by
          intro z
          apply e
          refine ⟨rfl, ?_⟩
          omega)]
  · rw [up_rd, if_neg (fun z => hc z.1)]
    exact h.2 col i hc
theorem MN_rm {D D1 : MI} {N : List Msg} {pl : Nat} (h : MN D N) (hp : pl < N.length) (s : shf D (14 * pl) (14 * N.length) D1) : MN (up D1 71 0 (nI (N.length - 1))) (N.eraseIdx pl) := by
  have hl : (N.eraseIdx pl).length = N.length - 1 := by rw [List.length_eraseIdx, if_pos hp]
  obtain ⟨h1, h2, h3⟩ := h
  refine ⟨by omega, by rw [hl]; rfl, fun k x hk w hw => ?_⟩
  have hk2 := (List.getElem?_eq_some_iff.mp hk).1
  rw [hl] at hk2
  rw [up_c _ _ (by decide), s.1]
  rw [List.getElem?_eraseIdx] at hk
  split at hk
  · rename_i e
    rw [if_neg (by omega)]
    exact h3 k x hk w hw
  · rename_i e
    rw [if_pos (by omega), show 14 * k + w + 14 = 14 * (k + 1) + w by omega]
    exact h3 (k + 1) x hk w hw
/-- words set to 0, or to those said -/
def zer (D : MI) (j : Nat) (D1 : MI) : Prop := (∀ i, i < j → D1 74 i = 0) ∧ ∀ col i, col ≠ 74 → D1 col i = D col i
theorem zer_s {D D1 : MI} {j : Nat} (h : zer D j D1) : zer D (j + 1) (up D1 74 j 0) := by
  refine ⟨fun i hi => ?_, fun col i hc => ?_⟩
  · rw [up_rd]
    split
    · rfl
    · exact h.1 i (by omega)
  · rw [up_c _ _ hc]
    exact h.2 col i hc
def cpy (D : MI) (p j : Nat) (D1 : MI) : Prop := (∀ i, D1 72 i = if p ≤ i ∧ i < p + j then D 74 (i - p) else D 72 i) ∧ ∀ col i, col ≠ 72 → D1 col i = D col i
theorem cpy_s {D D1 : MI} {p j : Nat} (h : cpy D p j D1) : cpy D p (j + 1) (up D1 72 (p + j) (D1 74 j)) := by
  refine ⟨fun i => ?_, fun col i hc => ?_⟩
  · rw [up_rd]
    split
    · rename_i e
      rw [if_pos (by omega), h.2 74 j (by decide), show i - p = j by omega]
    · rename_i e
      rw [h.1 i]
      by_cases h1 : p ≤ i ∧ i < p + j
      · rw [if_pos h1, if_pos (by omega)]
      · rw [if_neg h1, if_neg (by
          intro z
          apply e
          refine ⟨rfl, ?_⟩
          omega)]
  · rw [up_c _ _ hc]
    exact h.2 col i hc
theorem MN_put {D D1 : MI} {N : List Msg} {x : Msg} (h : MN D N) (hn : N.length < 300) (hx : ∀ w, w < 14 → D 74 w = x w) (s : cpy D (14 * N.length) 14 D1) : MN (up D1 71 0 (nI (N.length + 1))) (N ++ [x]) := by
  obtain ⟨h1, h2, h3⟩ := h
  refine ⟨by simp; omega, by simp [up_rd], fun k y hk w hw => ?_⟩
  rw [up_c _ _ (by decide), s.1]
  by_cases hk2 : k < N.length
  · rw [List.getElem?_append_left hk2] at hk
    rw [if_neg (by omega)]
    exact h3 k y hk w hw
  · have hk3 := (List.getElem?_eq_some_iff.mp hk).1
    simp at hk3
    have : k = N.length := by omega
    subst this
    simp at hk
    rw [if_pos (by omega), show 14 * N.length + w - 14 * N.length = w by omega, hx w hw, hk]
theorem d_Mod_remove_0 : decode b_Mod_remove 0 = .ok (.bipush 14, 2) := by decide +kernel
theorem d_Mod_remove_2 : decode b_Mod_remove 2 = .ok (.iload_n 1, 1) := by decide +kernel
theorem d_Mod_remove_3 : decode b_Mod_remove 3 = .ok (.iconst 1, 1) := by decide +kernel
theorem d_Mod_remove_4 : decode b_Mod_remove 4 = .ok (.iadd, 1) := by decide +kernel
theorem d_Mod_remove_5 : decode b_Mod_remove 5 = .ok (.imul, 1) := by decide +kernel
theorem d_Mod_remove_6 : decode b_Mod_remove 6 = .ok (.istore_n 2, 1) := by decide +kernel
theorem d_Mod_remove_7 : decode b_Mod_remove 7 = .ok (.iload_n 2, 1) := by decide +kernel
theorem d_Mod_remove_8 : decode b_Mod_remove 8 = .ok (.bipush 14, 2) := by decide +kernel
theorem d_Mod_remove_10 : decode b_Mod_remove 10 = .ok (.aload_n 0, 1) := by decide +kernel
theorem d_Mod_remove_11 : decode b_Mod_remove 11 = .ok (.getfield 114, 3) := by decide +kernel
theorem d_Mod_remove_14 : decode b_Mod_remove 14 = .ok (.imul, 1) := by decide +kernel
theorem d_Mod_remove_15 : decode b_Mod_remove 15 = .ok (.if_icmp .ge 24, 3) := by decide +kernel
theorem d_Mod_remove_18 : decode b_Mod_remove 18 = .ok (.aload_n 0, 1) := by decide +kernel
theorem d_Mod_remove_19 : decode b_Mod_remove 19 = .ok (.getfield 86, 3) := by decide +kernel
theorem d_Mod_remove_22 : decode b_Mod_remove 22 = .ok (.iload_n 2, 1) := by decide +kernel
theorem d_Mod_remove_23 : decode b_Mod_remove 23 = .ok (.bipush 14, 2) := by decide +kernel
theorem d_Mod_remove_25 : decode b_Mod_remove 25 = .ok (.isub, 1) := by decide +kernel
theorem d_Mod_remove_26 : decode b_Mod_remove 26 = .ok (.aload_n 0, 1) := by decide +kernel
theorem d_Mod_remove_27 : decode b_Mod_remove 27 = .ok (.getfield 86, 3) := by decide +kernel
theorem d_Mod_remove_30 : decode b_Mod_remove 30 = .ok (.iload_n 2, 1) := by decide +kernel
theorem d_Mod_remove_31 : decode b_Mod_remove 31 = .ok (.iaload, 1) := by decide +kernel
theorem d_Mod_remove_32 : decode b_Mod_remove 32 = .ok (.iastore, 1) := by decide +kernel
theorem d_Mod_remove_33 : decode b_Mod_remove 33 = .ok (.iinc 2 1, 3) := by decide +kernel
theorem d_Mod_remove_36 : decode b_Mod_remove 36 = .ok (.goto (-29), 3) := by decide +kernel
theorem d_Mod_remove_39 : decode b_Mod_remove 39 = .ok (.aload_n 0, 1) := by decide +kernel
theorem d_Mod_remove_40 : decode b_Mod_remove 40 = .ok (.dup, 1) := by decide +kernel
theorem d_Mod_remove_41 : decode b_Mod_remove 41 = .ok (.getfield 114, 3) := by decide +kernel
theorem d_Mod_remove_44 : decode b_Mod_remove 44 = .ok (.iconst 1, 1) := by decide +kernel
theorem d_Mod_remove_45 : decode b_Mod_remove 45 = .ok (.isub, 1) := by decide +kernel
theorem d_Mod_remove_46 : decode b_Mod_remove 46 = .ok (.putfield 114, 3) := by decide +kernel
theorem d_Mod_remove_49 : decode b_Mod_remove 49 = .ok (.return_, 1) := by decide +kernel
set_option maxRecDepth 100000 in
set_option maxHeartbeats 4000000 in
theorem c_Mod_remove (l : Launch) (K : Kx) (V : Vx) (A B C D : MI) (P : MP) (ms : MSt K V P) (N : List Msg) (hm : MN D N) (pl : Nat) (hpl : pl < N.length) : Ct l K md_Mod_remove (0, 0) 0 0 [.ref (K.ad 6 0), .int (nI pl)] V (bk4 A B C D) P (MQ_ V A B P none C D (N.eraseIdx pl)) := by
  refine ct_of [(0, .ref (K.ad 6 0)), (1, .int (nI pl))] (by decide) (Nat.le_of_ble_eq_true rfl) (ca_r (ca_i ca_n)) rfl ?_
  intro X hl hX
  have h : OkX X b_Mod_remove R_Mod K := hX.1
  have hN : X.nL = 3 := hX.2.1
  have hmv := ms.1
  have hm0 := hm.1
  have hL : ∀ (k j : Nat) (D1 : MI), j + k = 14 * N.length → 14 * pl + 14 ≤ j ∧ shf D (14 * pl) j D1 → J X K V (bk4 A B C D1) P 0 0 7 [(0, .ref (K.ad 6 0)), (1, .int (nI pl)), (2, .int (nI j))] [] := by
    intro k
    induction k with
    | zero =>
      intro j D1 hi hv
      have hi2 : j = 14 * N.length := by omega
      subst hi2
      refine j_iload_n h d_Mod_remove_7 rfl ?_
      refine j_bipush (v := 14) h d_Mod_remove_8 (by decide) ?_
      refine j_aload_n h d_Mod_remove_10 rfl ?_
      refine j_get3e (v := nI N.length) h d_Mod_remove_11 fl_Mod_114 rfl (by assumption) ((hv.2.2 71 0 (by decide)).trans hm.2.1) ?_
      refine j_ml14 h d_Mod_remove_14 ?_
      refine j_ic_ge (tgt := 39) h d_Mod_remove_15 (by decide) (fun _ => ?_) (fun c => absurd (nI_le (Nat.le_refl _) (by omega)) c)
      have hv := hv.2
      refine j_aload_n h d_Mod_remove_39 rfl ?_
      refine j_dup h d_Mod_remove_40 rfl ?_
      refine j_get3e (v := nI N.length) h d_Mod_remove_41 fl_Mod_114 rfl (by assumption) ((hv.2 71 0 (by decide)).trans hm.2.1) ?_
      refine j_iconst (v := 1) h d_Mod_remove_44 (by decide) ?_
      refine j_sb1 h (by omega) d_Mod_remove_45 ?_
      refine j_put3 h d_Mod_remove_46 fw_Mod_114 rfl rfl (by assumption) ?_
      exact j_vret hX d_Mod_remove_49 rfl (Nat.le_refl _) (Nat.le_refl _) ⟨rfl, rfl, rfl, _, rfl, fun col i hc => by rw [up_c _ _ (by omega)]; exact hv.2 col i (by omega), MN_rm hm hpl hv⟩
    | succ k ih =>
      intro j D1 hi hv
      have hi2 : j < 14 * N.length := by omega
      have hv0 := hv
      have hm1 := hm.1
      refine j_iload_n h d_Mod_remove_7 rfl ?_
      refine j_bipush (v := 14) h d_Mod_remove_8 (by decide) ?_
      refine j_aload_n h d_Mod_remove_10 rfl ?_
      refine j_get3e (v := nI N.length) h d_Mod_remove_11 fl_Mod_114 rfl (by assumption) ((hv.2.2 71 0 (by decide)).trans hm.2.1) ?_
      refine j_ml14 h d_Mod_remove_14 ?_
      refine j_ic_ge (tgt := 39) h d_Mod_remove_15 (by decide) (fun c => absurd c (nI_ge hi2 (by omega))) (fun _ => ?_)
      refine j_aload_n h d_Mod_remove_18 rfl ?_
      refine j_getR h d_Mod_remove_19 fl_Mod_86 rfl (by assumption) (mP ms (a := 35) (by decide)) ?_
      refine j_iload_n h d_Mod_remove_22 rfl ?_
      refine j_bipush (v := 14) h d_Mod_remove_23 (by decide) ?_
      refine j_sb14 h (by omega) d_Mod_remove_25 ?_
      refine j_aload_n h d_Mod_remove_26 rfl ?_
      refine j_getR h d_Mod_remove_27 fl_Mod_86 rfl (by assumption) (mP ms (a := 35) (by decide)) ?_
      refine j_iload_n h d_Mod_remove_30 rfl ?_
      refine m_iald3 (a := 35) (L := 4200) (j := j) h ms d_Mod_remove_31 (by decide) rfl (by decide) rfl rfl (by omega) ?_
      refine m_iast3 (a := 35) (L := 4200) (j := (j - 14)) h ms d_Mod_remove_32 (by decide) rfl (by decide) rfl rfl (by omega) ?_
      refine j_iinc (v := nI (j + 1)) h d_Mod_remove_33 rfl (nI_i j) (Nat.lt_of_lt_of_eq (m := 3) (by decide) hN.symm) ?_
      refine j_goto (tgt := 7) h d_Mod_remove_36 (by decide) ?_
      refine j_lv (lv' := [(0, .ref (K.ad 6 0)), (1, .int (nI pl)), (2, .int (nI (j + 1)))]) (lvs rfl (lvs rfl (lvs rfl lvs0))) ?_
      exact ih (j + 1) _ (by omega) ⟨by omega, shf_s hv.2 (by omega)⟩
  refine j_bipush (v := 14) h d_Mod_remove_0 (by decide) ?_
  refine j_iload_n h d_Mod_remove_2 rfl ?_
  refine j_iconst (v := 1) h d_Mod_remove_3 (by decide) ?_
  refine j_ad1 h d_Mod_remove_4 ?_
  refine j_ml14 h d_Mod_remove_5 ?_
  refine j_istore_n h d_Mod_remove_6 (Nat.lt_of_lt_of_eq (m := 3) (by decide) hN.symm) ?_
  refine j_lv (lv' := [(0, .ref (K.ad 6 0)), (1, .int (nI pl)), (2, .int (nI (14 * (pl + 1))))]) (lvs rfl (lvs rfl (lvs rfl lvs0))) ?_
  exact hL (14 * N.length - 14 * (pl + 1)) _ D (by omega) ⟨by omega, fun i => by rw [if_neg (by omega)], fun _ _ _ => rfl⟩
theorem d_Mod_say_0 : decode b_Mod_say 0 = .ok (.iconst 0, 1) := by decide +kernel
theorem d_Mod_say_1 : decode b_Mod_say 1 = .ok (.istore 8, 2) := by decide +kernel
theorem d_Mod_say_3 : decode b_Mod_say 3 = .ok (.iload 8, 2) := by decide +kernel
theorem d_Mod_say_5 : decode b_Mod_say 5 = .ok (.bipush 14, 2) := by decide +kernel
theorem d_Mod_say_7 : decode b_Mod_say 7 = .ok (.if_icmp .ge 17, 3) := by decide +kernel
theorem d_Mod_say_10 : decode b_Mod_say 10 = .ok (.aload_n 0, 1) := by decide +kernel
theorem d_Mod_say_11 : decode b_Mod_say 11 = .ok (.getfield 92, 3) := by decide +kernel
theorem d_Mod_say_14 : decode b_Mod_say 14 = .ok (.iload 8, 2) := by decide +kernel
theorem d_Mod_say_16 : decode b_Mod_say 16 = .ok (.iconst 0, 1) := by decide +kernel
theorem d_Mod_say_17 : decode b_Mod_say 17 = .ok (.iastore, 1) := by decide +kernel
theorem d_Mod_say_18 : decode b_Mod_say 18 = .ok (.iinc 8 1, 3) := by decide +kernel
theorem d_Mod_say_21 : decode b_Mod_say 21 = .ok (.goto (-18), 3) := by decide +kernel
theorem d_Mod_say_24 : decode b_Mod_say 24 = .ok (.aload_n 0, 1) := by decide +kernel
theorem d_Mod_say_25 : decode b_Mod_say 25 = .ok (.getfield 92, 3) := by decide +kernel
theorem d_Mod_say_28 : decode b_Mod_say 28 = .ok (.iconst 0, 1) := by decide +kernel
theorem d_Mod_say_29 : decode b_Mod_say 29 = .ok (.iload_n 1, 1) := by decide +kernel
theorem d_Mod_say_30 : decode b_Mod_say 30 = .ok (.iastore, 1) := by decide +kernel
theorem d_Mod_say_31 : decode b_Mod_say 31 = .ok (.aload_n 0, 1) := by decide +kernel
theorem d_Mod_say_32 : decode b_Mod_say 32 = .ok (.getfield 92, 3) := by decide +kernel
theorem d_Mod_say_35 : decode b_Mod_say 35 = .ok (.iconst 1, 1) := by decide +kernel
theorem d_Mod_say_36 : decode b_Mod_say 36 = .ok (.iload_n 2, 1) := by decide +kernel
theorem d_Mod_say_37 : decode b_Mod_say 37 = .ok (.iastore, 1) := by decide +kernel
theorem d_Mod_say_38 : decode b_Mod_say 38 = .ok (.aload_n 0, 1) := by decide +kernel
theorem d_Mod_say_39 : decode b_Mod_say 39 = .ok (.getfield 92, 3) := by decide +kernel
theorem d_Mod_say_42 : decode b_Mod_say 42 = .ok (.iconst 2, 1) := by decide +kernel
theorem d_Mod_say_43 : decode b_Mod_say 43 = .ok (.iload_n 3, 1) := by decide +kernel
theorem d_Mod_say_44 : decode b_Mod_say 44 = .ok (.iastore, 1) := by decide +kernel
theorem d_Mod_say_45 : decode b_Mod_say 45 = .ok (.aload_n 0, 1) := by decide +kernel
theorem d_Mod_say_46 : decode b_Mod_say 46 = .ok (.getfield 92, 3) := by decide +kernel
theorem d_Mod_say_49 : decode b_Mod_say 49 = .ok (.iconst 3, 1) := by decide +kernel
theorem d_Mod_say_50 : decode b_Mod_say 50 = .ok (.iload 4, 2) := by decide +kernel
theorem d_Mod_say_52 : decode b_Mod_say 52 = .ok (.iastore, 1) := by decide +kernel
theorem d_Mod_say_53 : decode b_Mod_say 53 = .ok (.aload_n 0, 1) := by decide +kernel
theorem d_Mod_say_54 : decode b_Mod_say 54 = .ok (.getfield 92, 3) := by decide +kernel
theorem d_Mod_say_57 : decode b_Mod_say 57 = .ok (.iconst 4, 1) := by decide +kernel
theorem d_Mod_say_58 : decode b_Mod_say 58 = .ok (.iload 5, 2) := by decide +kernel
theorem d_Mod_say_60 : decode b_Mod_say 60 = .ok (.iastore, 1) := by decide +kernel
theorem d_Mod_say_61 : decode b_Mod_say 61 = .ok (.aload_n 0, 1) := by decide +kernel
theorem d_Mod_say_62 : decode b_Mod_say 62 = .ok (.getfield 92, 3) := by decide +kernel
theorem d_Mod_say_65 : decode b_Mod_say 65 = .ok (.iconst 5, 1) := by decide +kernel
theorem d_Mod_say_66 : decode b_Mod_say 66 = .ok (.iload 6, 2) := by decide +kernel
theorem d_Mod_say_68 : decode b_Mod_say 68 = .ok (.iastore, 1) := by decide +kernel
theorem d_Mod_say_69 : decode b_Mod_say 69 = .ok (.aload_n 0, 1) := by decide +kernel
theorem d_Mod_say_70 : decode b_Mod_say 70 = .ok (.getfield 92, 3) := by decide +kernel
theorem d_Mod_say_73 : decode b_Mod_say 73 = .ok (.bipush 6, 2) := by decide +kernel
theorem d_Mod_say_75 : decode b_Mod_say 75 = .ok (.iload 7, 2) := by decide +kernel
theorem d_Mod_say_77 : decode b_Mod_say 77 = .ok (.iastore, 1) := by decide +kernel
theorem d_Mod_say_78 : decode b_Mod_say 78 = .ok (.return_, 1) := by decide +kernel
set_option maxRecDepth 100000 in
set_option maxHeartbeats 4000000 in
theorem c_Mod_say (l : Launch) (K : Kx) (V : Vx) (A B C D : MI) (P : MP) (ms : MSt K V P) (z1 z2 z3 z4 z5 z6 z7 : Int32) : Ct l K md_Mod_say (0, 0) 0 0 [.ref (K.ad 6 0), .int z1, .int z2, .int z3, .int z4, .int z5, .int z6, .int z7] V (bk4 A B C D) P (fun V' r I' P' => V' = V ∧ r = none ∧ P' = P ∧ ∃ D', I' = bk4 A B C D' ∧ (∀ col i, col ≠ 74 → D' col i = D col i) ∧ ∀ w, w < 14 → D' 74 w = mk7 z1 z2 z3 z4 z5 z6 z7 w) := by
  refine ct_of [(0, .ref (K.ad 6 0)), (1, .int z1), (2, .int z2), (3, .int z3), (4, .int z4), (5, .int z5), (6, .int z6), (7, .int z7)] (by decide) (Nat.le_of_ble_eq_true rfl) (ca_r (ca_i (ca_i (ca_i (ca_i (ca_i (ca_i (ca_i ca_n)))))))) rfl ?_
  intro X hl hX
  have h : OkX X b_Mod_say R_Mod K := hX.1
  have hN : X.nL = 9 := hX.2.1
  have hmv := ms.1
  have hL : ∀ (k j : Nat) (D1 : MI), j + k = 14 → zer D j D1 → J X K V (bk4 A B C D1) P 0 0 3 [(0, .ref (K.ad 6 0)), (1, .int z1), (2, .int z2), (3, .int z3), (4, .int z4), (5, .int z5), (6, .int z6), (7, .int z7), (8, .int (nI j))] [] := by
    intro k
    induction k with
    | zero =>
      intro j D1 hi hv
      have hi2 : j = 14 := by omega
      subst hi2
      refine j_iload h d_Mod_say_3 rfl ?_
      refine j_bipush (v := 14) h d_Mod_say_5 (by decide) ?_
      refine j_ic_ge (tgt := 24) h d_Mod_say_7 (by decide) (fun _ => ?_) (fun c => absurd (nI_le (Nat.le_refl _) (by decide)) c)
      refine j_aload_n h d_Mod_say_24 rfl ?_
      refine j_getR h d_Mod_say_25 fl_Mod_92 rfl (by assumption) (mP ms (a := 37) (by decide)) ?_
      refine j_iconst (v := 0) h d_Mod_say_28 (by decide) ?_
      refine j_iload_n h d_Mod_say_29 rfl ?_
      refine m_iast3 (a := 37) (L := 14) (j := 0) h ms d_Mod_say_30 (by decide) rfl (by decide) rfl rfl (by omega) ?_
      refine j_aload_n h d_Mod_say_31 rfl ?_
      refine j_getR h d_Mod_say_32 fl_Mod_92 rfl (by assumption) (mP ms (a := 37) (by decide)) ?_
      refine j_iconst (v := 1) h d_Mod_say_35 (by decide) ?_
      refine j_iload_n h d_Mod_say_36 rfl ?_
      refine m_iast3 (a := 37) (L := 14) (j := 1) h ms d_Mod_say_37 (by decide) rfl (by decide) rfl rfl (by omega) ?_
      refine j_aload_n h d_Mod_say_38 rfl ?_
      refine j_getR h d_Mod_say_39 fl_Mod_92 rfl (by assumption) (mP ms (a := 37) (by decide)) ?_
      refine j_iconst (v := 2) h d_Mod_say_42 (by decide) ?_
      refine j_iload_n h d_Mod_say_43 rfl ?_
      refine m_iast3 (a := 37) (L := 14) (j := 2) h ms d_Mod_say_44 (by decide) rfl (by decide) rfl rfl (by omega) ?_
      refine j_aload_n h d_Mod_say_45 rfl ?_
      refine j_getR h d_Mod_say_46 fl_Mod_92 rfl (by assumption) (mP ms (a := 37) (by decide)) ?_
      refine j_iconst (v := 3) h d_Mod_say_49 (by decide) ?_
      refine j_iload h d_Mod_say_50 rfl ?_
      refine m_iast3 (a := 37) (L := 14) (j := 3) h ms d_Mod_say_52 (by decide) rfl (by decide) rfl rfl (by omega) ?_
      refine j_aload_n h d_Mod_say_53 rfl ?_
      refine j_getR h d_Mod_say_54 fl_Mod_92 rfl (by assumption) (mP ms (a := 37) (by decide)) ?_
      refine j_iconst (v := 4) h d_Mod_say_57 (by decide) ?_
      refine j_iload h d_Mod_say_58 rfl ?_
      refine m_iast3 (a := 37) (L := 14) (j := 4) h ms d_Mod_say_60 (by decide) rfl (by decide) rfl rfl (by omega) ?_
      refine j_aload_n h d_Mod_say_61 rfl ?_
      refine j_getR h d_Mod_say_62 fl_Mod_92 rfl (by assumption) (mP ms (a := 37) (by decide)) ?_
      refine j_iconst (v := 5) h d_Mod_say_65 (by decide) ?_
      refine j_iload h d_Mod_say_66 rfl ?_
      refine m_iast3 (a := 37) (L := 14) (j := 5) h ms d_Mod_say_68 (by decide) rfl (by decide) rfl rfl (by omega) ?_
      refine j_aload_n h d_Mod_say_69 rfl ?_
      refine j_getR h d_Mod_say_70 fl_Mod_92 rfl (by assumption) (mP ms (a := 37) (by decide)) ?_
      refine j_bipush (v := 6) h d_Mod_say_73 (by decide) ?_
      refine j_iload h d_Mod_say_75 rfl ?_
      refine m_iast3 (a := 37) (L := 14) (j := 6) h ms d_Mod_say_77 (by decide) rfl (by decide) rfl rfl (by omega) ?_
      refine j_vret hX d_Mod_say_78 rfl (Nat.le_refl _) (Nat.le_refl _) ⟨rfl, rfl, rfl, _, rfl, fun col i hc => by simp only [up_rd]; simp [hc, hv.2 col i hc], fun w hw => ?_⟩
      have hz := hv.1 w hw
      simp only [up_rd]
      rcases (show w = 0 ∨ w = 1 ∨ w = 2 ∨ w = 3 ∨ w = 4 ∨ w = 5 ∨ w = 6 ∨ w = 7 ∨ w = 8 ∨ w = 9 ∨ w = 10 ∨ w = 11 ∨ w = 12 ∨ w = 13 by omega) with rfl | rfl | rfl | rfl | rfl | rfl | rfl | rfl | rfl | rfl | rfl | rfl | rfl | rfl <;> simp [mk7] <;> exact hz
    | succ k ih =>
      intro j D1 hi hv
      have hi2 : j < 14 := by omega
      refine j_iload h d_Mod_say_3 rfl ?_
      refine j_bipush (v := 14) h d_Mod_say_5 (by decide) ?_
      refine j_ic_ge (tgt := 24) h d_Mod_say_7 (by decide) (fun c => absurd c (nI_ge hi2 (by decide))) (fun _ => ?_)
      refine j_aload_n h d_Mod_say_10 rfl ?_
      refine j_getR h d_Mod_say_11 fl_Mod_92 rfl (by assumption) (mP ms (a := 37) (by decide)) ?_
      refine j_iload h d_Mod_say_14 rfl ?_
      refine j_iconst (v := 0) h d_Mod_say_16 (by decide) ?_
      refine m_iast3 (a := 37) (L := 14) (j := j) h ms d_Mod_say_17 (by decide) rfl (by decide) rfl rfl (by omega) ?_
      refine j_iinc (v := nI (j + 1)) h d_Mod_say_18 rfl (nI_i j) (Nat.lt_of_lt_of_eq (m := 9) (by decide) hN.symm) ?_
      refine j_goto (tgt := 3) h d_Mod_say_21 (by decide) ?_
      refine j_lv (lv' := [(0, .ref (K.ad 6 0)), (1, .int z1), (2, .int z2), (3, .int z3), (4, .int z4), (5, .int z5), (6, .int z6), (7, .int z7), (8, .int (nI (j + 1)))]) (lvs rfl (lvs rfl (lvs rfl (lvs rfl (lvs rfl (lvs rfl (lvs rfl (lvs rfl (lvs rfl lvs0))))))))) ?_
      exact ih (j + 1) _ (by omega) (zer_s hv)
  refine j_iconst (v := 0) h d_Mod_say_0 (by decide) ?_
  refine j_istore h d_Mod_say_1 (Nat.lt_of_lt_of_eq (m := 9) (by decide) hN.symm) ?_
  refine j_lv (lv' := [(0, .ref (K.ad 6 0)), (1, .int z1), (2, .int z2), (3, .int z3), (4, .int z4), (5, .int z5), (6, .int z6), (7, .int z7), (8, .int (nI 0))]) (lvs rfl (lvs rfl (lvs rfl (lvs rfl (lvs rfl (lvs rfl (lvs rfl (lvs rfl (lvs rfl lvs0))))))))) ?_
  exact hL 14 0 D (by omega) ⟨fun _ h => absurd h (by omega), fun _ _ _ => rfl⟩
