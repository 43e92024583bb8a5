/-! what has been made, told otherwise -/
theorem vx_eq {V V' : Vx} (e1 : ∀ c i, V.1 c i ↔ V'.1 c i) (e2 : ∀ a, V.2.1 a ↔ V'.2.1 a) (e3 : ∀ z, V.2.2 z ↔ V'.2.2 z) : V = V' := by
  obtain ⟨v1, v2, v3⟩ := V
  obtain ⟨w1, w2, w3⟩ := V'
  have h1 : v1 = w1 := funext fun c => funext fun i => propext (e1 c i)
  have h2 : v2 = w2 := funext fun a => propext (e2 a)
  have h3 : v3 = w3 := funext fun z => propext (e3 z)
  rw [h1, h2, h3]
section JVX
variable {X : Jx} {K : Kx} {V V' : Vx} {I : MI3} {P : MP} {cells slots pc : Nat} {lv : List (Nat × Value)} {st : List Value}
theorem j_V (e : V = V') (k : J X K V' I P cells slots pc lv st) : J X K V I P cells slots pc lv st := by rw [e]; exact k
end JVX
/-- V with the first j of s's records, the heap being z big -/
def recV (V : Vx) (s j z : Nat) : Vx := (fun c i => V.1 c i ∨ (c = 2 ∧ 32 * s ≤ i ∧ i < 32 * s + j), V.2.1, fun y => y = z)
theorem recV_s {K : Kx} {V : Vx} {s j z : Nat} (h : K.ad 2 (32 * s + j) = z) : addO K (recV V s j z) 2 (32 * s + j) = recV V s (j + 1) (z + 1) := by
  refine vx_eq (fun c i => ?_) (fun _ => Iff.rfl) (fun y => ?_)
  · show ((V.1 c i ∨ (c = 2 ∧ 32 * s ≤ i ∧ i < 32 * s + j)) ∨ (c = 2 ∧ i = 32 * s + j)) ↔ (V.1 c i ∨ (c = 2 ∧ 32 * s ≤ i ∧ i < 32 * s + (j + 1)))
    constructor
    · rintro ((h1 | h1) | h1)
      · exact Or.inl h1
      · exact Or.inr ⟨h1.1, h1.2.1, by omega⟩
      · exact Or.inr ⟨h1.1, by omega, by omega⟩
    · rintro (h1 | h1)
      · exact Or.inl (Or.inl h1)
      · by_cases q : i = 32 * s + j
        · exact Or.inr ⟨h1.1, q⟩
        · exact Or.inl (Or.inr ⟨h1.1, h1.2.1, by omega⟩)
  · show y = K.ad 2 (32 * s + j) + 1 ↔ y = z + 1
    rw [h]
