/-! where things come to lie -/
def kad (b n : Nat) (c i : Nat) : Nat := match c with
  | 0 => b
  | 1 => if i = 0 then b + 2 else b + 4 + n
  | 2 => if i < 32 then b + 4 + i else b + 6 + n + (i - 32)
  | 3 => b + 7 + 2 * n + i
  | 4 => b + 23 + 2 * n
  | 5 => b + 26 + 2 * n + i
  | _ => b + 627 + 2 * n
def kaad (b n : Nat) (a : Nat) : Nat := if a = 0 then b + 1 else if a = 1 then b + 6 + 2 * n else if a = 2 then b + 3 else if a = 3 then b + 5 + n else if a = 4 then b + 24 + 2 * n else if a = 5 then b + 25 + 2 * n else if a = 40 then b + 657 + 2 * n else b + 618 + 2 * n + a
def kpv (n : Nat) (c i : Nat) : Prop := match c with
  | 0 => i = 0
  | 1 => i < 2
  | 2 => i < n ∨ (32 ≤ i ∧ i < 32 + n)
  | 3 => i < 16
  | 4 => i = 0
  | 5 => i < 601
  | 6 => i = 0
  | _ => False
def kpa (a : Nat) : Prop := a < 6 ∨ (10 ≤ a ∧ a < 39) ∨ a = 40
theorem kad_lo {b n c i : Nat} (h : kpv n c i) : b ≤ kad b n c i := by
  match c, h with
  | 0, _ => exact Nat.le_refl _
  | 1, h => simp only [kad]; split <;> omega
  | 2, h => simp only [kad]; split <;> omega
  | 3, h => simp only [kad]; omega
  | 4, h => simp only [kad]; omega
  | 5, h => simp only [kad]; omega
  | 6, h => simp only [kad]; omega
  | c + 7, h => exact h.elim
theorem kaad_lo {b n a : Nat} : b ≤ kaad b n a := by unfold kaad; repeat' split
                                                     all_goals omega
theorem kad_inj {b n : Nat} (hn : n ≤ 32) : ∀ c i c' i', kpv n c i → kpv n c' i' → kad b n c i = kad b n c' i' → c = c' ∧ i = i' := by
  intro c i c' i' h h' e
  have hc : c < 7 := by
    rcases Nat.lt_or_ge c 7 with q | q
    · exact q
    · obtain ⟨d, rfl⟩ : ∃ d, c = d + 7 := ⟨c - 7, by omega⟩
      exact h.elim
  have hc' : c' < 7 := by
    rcases Nat.lt_or_ge c' 7 with q | q
    · exact q
    · obtain ⟨d, rfl⟩ : ∃ d, c' = d + 7 := ⟨c' - 7, by omega⟩
      exact h'.elim
  rcases (show c = 0 ∨ c = 1 ∨ c = 2 ∨ c = 3 ∨ c = 4 ∨ c = 5 ∨ c = 6 by omega) with rfl | rfl | rfl | rfl | rfl | rfl | rfl <;>
    rcases (show c' = 0 ∨ c' = 1 ∨ c' = 2 ∨ c' = 3 ∨ c' = 4 ∨ c' = 5 ∨ c' = 6 by omega) with rfl | rfl | rfl | rfl | rfl | rfl | rfl <;>
    simp only [kpv, kad] at h h' e <;> (repeat' split at e) <;> omega
theorem kaad_inj {b n : Nat} (hn : n ≤ 32) : ∀ a a', kpa a → kpa a' → kaad b n a = kaad b n a' → a = a' := by
  intro a a' h h' e
  unfold kpa at h h'
  unfold kaad at e
  (repeat' split at e) <;> omega
theorem kk_ne {b n : Nat} (hn : n ≤ 32) : ∀ c i a, kpv n c i → kpa a → kad b n c i ≠ kaad b n a := by
  intro c i a h h' e
  have hc : c < 7 := by
    rcases Nat.lt_or_ge c 7 with q | q
    · exact q
    · obtain ⟨d, rfl⟩ : ∃ d, c = d + 7 := ⟨c - 7, by omega⟩
      exact h.elim
  unfold kpa at h'
  unfold kaad at e
  rcases (show c = 0 ∨ c = 1 ∨ c = 2 ∨ c = 3 ∨ c = 4 ∨ c = 5 ∨ c = 6 by omega) with rfl | rfl | rfl | rfl | rfl | rfl | rfl <;>
    simp only [kpv, kad] at h e <;> (repeat' split at e) <;> omega
