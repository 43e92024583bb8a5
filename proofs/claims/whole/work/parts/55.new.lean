/-! things that are made -/
section JNEW
variable {X : Jx} {cc : ByteArray} {own : String} {K : Kx} {V : Vx} {I : MI3} {P : MP} {cells slots pc : Nat} {lv : List (Nat × Value)} {st : List Value}
def addO (K : Kx) (V : Vx) (ci i : Nat) : Vx := (fun c j => V.1 c j ∨ (c = ci ∧ j = i), V.2.1, fun z => z = K.ad ci i + 1)
def addA (K : Kx) (V : Vx) (a : Nat) : Vx := (V.1, fun c => V.2.1 c ∨ c = a, fun z => z = K.aad a + 1)
theorem j_new (h : OkX X cc own K) {idx ci i : Nat} {r : vw_C} (d : decode cc pc = .ok (.new idx, 3)) (hr : classes[ci]? = some r) (w1 : Cond.classLink own idx r.1 ∈ WA) (w2 : Cond.instantiable r.1 r.2.2 ∈ WA) (w3 : Cond.initialized r.1 ∈ WA) (hz : ∀ z, V.2.2 z → z = K.ad ci i) (hpv : K.pv ci i) (hfs : ∀ j, j < r.2.2 → defaultValue (ftyp ci j) = fval I P (cinf ci j) i) (hf : cells + 1 ≤ X.R.cells ∧ slots + r.2.2 ≤ X.R.slots)
    (kk : J X K (addO K V ci i) I P (cells + 1) (slots + r.2.2) (pc + 3) lv (.ref (K.ad ci i) :: st)) : J X K V I P cells slots pc lv st := by
  intro H locs ls a b e f g
  have ht := h.2.2.2.2.1
  have hKn := h.2.2.2.2.2.1.1 ci r hr
  have hsz : H.size = K.ad ci i := hz _ a.2.2
  refine W.newcK h.1 h.2.1 h.2.2.2.1 (ht _ w1) (ht _ w2) (ht _ w3) rfl d hf.1 hf.2 hKn.2.1 rfl fun H1 kC hkC e1 z1 o1 => ?_
  have hlt : ∀ q (c : Cell), H[q]? = some c → H1[q]? = H[q]? := fun q c hq => o1 q (by
    rcases Nat.lt_or_ge q H.size with q1 | q1
    · exact q1
    · rw [Array.getElem?_eq_none q1] at hq; cases hq)
  have K2 := kk H1 locs ls ⟨fun c j hv => ?_, fun c hc => ?_, ?_⟩ (Nat.le_trans b (by omega)) (fun q hq => (o1 q (Nat.lt_of_lt_of_le hq (Nat.le_trans h.2.2.2.2.2.2.1.1 b))).trans (e q hq)) f g
  · rw [← hsz] at K2
    exact K2
  · rcases hv with hv | ⟨rfl, rfl⟩
    · obtain ⟨p', r', hr', hob⟩ := a.1 c j hv
      obtain ⟨cell, q1, q2⟩ := id hob
      exact ⟨p', r', hr', hob.kept (hlt _ _ q1)⟩
    · refine ⟨hpv, r, hr, ?_⟩
      rw [← hsz]
      exact (u_born (ftyp c) ht (cls_in c r hr) hKn hkC e1 (cls_ty c r hr)).to hfs
  · obtain ⟨p', hc'⟩ := a.2.1 c hc
    exact ⟨p', (hlt _ _ hc').trans hc'⟩
  · show H1.size = K.ad ci i + 1
    omega
end JNEW
