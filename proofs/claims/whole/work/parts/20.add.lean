/-! what is sent -/
def mk7 (a b c d e f g : Int32) : Msg := fun w => match w with
  | 0 => a
  | 1 => b
  | 2 => c
  | 3 => d
  | 4 => e
  | 5 => f
  | 6 => g
  | _ => 0
def m_hello (A : MI) (s : Nat) : Msg := mk7 2 (nI (1 - s)) (nI s) 0 (-1) (A 2 s) 0
def m_upd (A : MI) (s a : Nat) : Msg := fun w => match w with
  | 0 => 3
  | 1 => nI (1 - s)
  | 2 => nI s
  | 3 => A 10 (32 * s + a)
  | 4 => nI a
  | 5 => A 15 (32 * s + a)
  | 6 => A 12 (32 * s + a)
  | 7 => A 2 s
  | 8 => A 4 s
  | 9 => A 11 (32 * s + a)
  | 10 => A 13 (32 * s + a)
  | 11 => A 14 (32 * s + a)
  | 12 => A 19 (32 * s + a)
  | 13 => A 20 (32 * s + a)
  | _ => 0
def m_ack (A : MI) (s a : Nat) (num amt : Int32) : Msg := fun w => match w with
  | 0 => 4
  | 1 => nI (1 - s)
  | 2 => nI s
  | 3 => 0
  | 4 => nI a
  | 5 => num
  | 6 => amt
  | 7 => A 2 s
  | 8 => A 15 (32 * s + a)
  | _ => 0
theorem CM_kept {B B2 : MI} {q : Nat} {x : Msg} (h : CM B q x) (e : ∀ col, 80 ≤ col → B2 col q = B col q) : CM B2 q x :=
  ⟨fun w hw => (e _ (by omega)).trans (h.1 w hw), fun h3 w hw => (e _ (by omega)).trans (h.2.1 h3 w hw), fun h4 => ⟨(e _ (by omega)).trans (h.2.2 h4).1, (e _ (by omega)).trans (h.2.2 h4).2⟩⟩
/-- only the message q has been written -/
def OQ (B B2 : MI) (q : Nat) : Prop := (∀ col i, col < 80 → B2 col i = B col i) ∧ ∀ col i, i ≠ q → B2 col i = B col i
theorem oq_r (B : MI) (q : Nat) : OQ B B q := ⟨fun _ _ _ => rfl, fun _ _ _ => rfl⟩
theorem oq_u {B B1 : MI} {q col : Nat} {v : Int32} (h : 80 ≤ col) (k : OQ B B1 q) : OQ B (up B1 col q v) q :=
  ⟨fun c i hc => by rw [up_c _ _ (by omega)]; exact k.1 c i hc, fun c i hi => by rw [up_i _ _ hi]; exact k.2 c i hi⟩
theorem oq_b (B : MI) (q : Nat) (a b c : Int32) : OQ B (mBegin B q a b c) q := by
  unfold mBegin
  exact oq_u (by decide) (oq_u (by decide) (oq_u (by decide) (oq_u (by decide) (oq_u (by decide) (oq_u (by decide) (oq_r B q))))))
theorem NC_add {K : Kx} {P : MP} {B B2 : MI} {ld sk : Int32} {N T : List Msg} {U x : Msg} {t f ft : Nat} {g : Nat → Nat → Nat} (kb : KB B ld sk) (w : NCw K P B N T U t g f ft) (oq : OQ (adB B f N.length) B2 (adq g t f N.length)) (hx : CM B2 (adq g t f N.length) x) (hb : B2 91 (adq g t f N.length) = 0 ∨ B2 91 (adq g t f N.length) = 1) : NC K P B2 ld sk (netput x N) T U := by
  obtain ⟨rg, hN, b71, hft, hT, hU, hz⟩ := w
  have rg2 := RG_ad rg
  obtain ⟨ht, hf, hc, b70, b72, p5, p6, hg, hgi⟩ := id rg
  have adk : ∀ col i, col ≠ 70 → col ≠ 72 → adB B f N.length col i = B col i := by
    intro col i h1 h2
    unfold adB
    split
    · exact up_c _ _ h1
    · exact up_c _ _ h2
  have ln : (netput x N).length = adc N.length := by
    unfold netput adc
    split
    · rw [List.length_append, List.length_tail]; simp; omega
    · simp
  have mk : ∀ u j, u < 2 → j < 300 → g u j ≠ adq g t f N.length → ∀ col, 80 ≤ col → B2 col (g u j) = B col (g u j) := fun u j _ _ hne col hcol => (oq.2 col _ hne).trans (adk col _ (by omega) (by omega))
  refine ⟨fun s hs => ?_, t, g, adf f N.length, ft, ⟨ht, adf_f hf, ?_, ?_, ?_, p5, p6, hg, hgi⟩, ?_, ?_, hft, ?_, ?_, ?_⟩
  · obtain ⟨k1, k2, k3, k4⟩ := kb s hs
    refine ⟨?_, ?_, ?_, ?_⟩
    · rw [oq.1 _ _ (by decide), adk _ _ (by decide) (by decide)]; exact k1
    · rw [oq.1 _ _ (by decide), adk _ _ (by decide) (by decide)]; exact k2
    · rw [oq.1 _ _ (by decide), adk _ _ (by decide) (by decide)]; exact k3
    · rw [oq.1 _ _ (by decide), adk _ _ (by decide) (by decide)]; exact k4
  · rw [ln]; exact (adc_c hc).1
  · rw [oq.1 _ _ (by decide)]; exact rg2.2.2.2.1
  · rw [oq.1 _ _ (by decide), ln]; exact rg2.2.2.2.2.1
  · intro k y hk
    by_cases hl : N.length = 300
    · have hf' : adf f N.length = (f + 1) % 300 := by unfold adf; rw [if_pos hl]
      have hq : adq g t f N.length = g t (((f + 1) % 300 + 299) % 300) := by unfold adq; rw [hf']; unfold adc; rw [if_pos hl]
      unfold netput at hk
      rw [if_pos hl] at hk
      by_cases hk2 : k < 299
      · rw [List.getElem?_append_left (by rw [List.length_tail]; omega), List.getElem?_tail] at hk
        have e := hN (k + 1) y hk
        have ei : (adf f N.length + k) % 300 = (f + (k + 1)) % 300 := by rw [hf']; omega
        rw [ei]
        refine CM_kept e (mk t _ ht (Nat.mod_lt _ (by decide)) (fun z => ?_))
        rw [hq] at z
        have := (hgi t _ t _ ht (Nat.mod_lt _ (by decide)) ht (Nat.mod_lt _ (by decide)) z).2
        omega
      · have hk3 : k = 299 := by
          have := (List.getElem?_eq_some_iff.mp hk).1
          rw [List.length_append, List.length_tail] at this
          simp at this
          omega
        subst hk3
        rw [List.getElem?_append_right (by rw [List.length_tail]; omega)] at hk
        have : 299 - N.tail.length = 0 := by rw [List.length_tail]; omega
        rw [this] at hk
        cases hk
        rw [hf', ← hq]
        exact hx
    · have hf' : adf f N.length = f := by unfold adf; rw [if_neg hl]
      have hq : adq g t f N.length = g t ((f + N.length) % 300) := by unfold adq; rw [hf']; unfold adc; rw [if_neg hl]; rfl
      unfold netput at hk
      rw [if_neg hl] at hk
      by_cases hk2 : k < N.length
      · rw [List.getElem?_append_left hk2] at hk
        have e := hN k y hk
        rw [hf']
        refine CM_kept e (mk t _ ht (Nat.mod_lt _ (by decide)) (fun z => ?_))
        rw [hq] at z
        have := (hgi t _ t _ ht (Nat.mod_lt _ (by decide)) ht (Nat.mod_lt _ (by decide)) z).2
        omega
      · have hk3 : k = N.length := by
          have := (List.getElem?_eq_some_iff.mp hk).1
          rw [List.length_append] at this
          simp at this
          omega
        subst hk3
        rw [List.getElem?_append_right (Nat.le_refl _), Nat.sub_self] at hk
        cases hk
        rw [hf', ← hq]
        exact hx
  · rw [oq.1 _ _ (by decide), adk _ _ (by decide) (by decide)]; exact b71
  · intro k y hk
    obtain ⟨h1, e⟩ := hT k y hk
    refine ⟨h1, CM_kept e (mk (1 - t) _ (by omega) (Nat.mod_lt _ (by decide)) (fun z => ?_))⟩
    have := (hgi (1 - t) _ t _ (by omega) (Nat.mod_lt _ (by decide)) ht (Nat.mod_lt _ (by decide)) z).1
    omega
  · refine CM_kept hU (fun col hcol => (oq.2 col _ (fun z => ?_)).trans (adk col _ (by omega) (by omega)))
    have := (hg t ((adf f N.length + (adc N.length - 1)) % 300) ht (Nat.mod_lt _ (by decide))).2
    have e : adq g t f N.length = g t ((adf f N.length + (adc N.length - 1)) % 300) := rfl
    omega
  · intro q hq
    by_cases hqq : q = adq g t f N.length
    · rw [hqq]; exact hb
    · rw [oq.2 _ _ hqq, adk _ _ (by decide) (by decide)]; exact hz q hq
theorem mB_rd (B : MI) (q : Nat) (a b c : Int32) (col i : Nat) : mBegin B q a b c col i = if col = 86 ∧ i = q then 0 else if col = 84 ∧ i = q then -1 else if col = 83 ∧ i = q then 0 else if col = 81 ∧ i = q then c else if col = 82 ∧ i = q then b else if col = 80 ∧ i = q then a else B col i := rfl
