/-! arrays that are made -/
section JNEWA
variable {X : Jx} {cc : ByteArray} {own : String} {K : Kx} {V : Vx} {I : MI3} {P : MP} {cells slots pc : Nat} {lv : List (Nat × Value)} {st : List Value}
theorem j_newa (h : OkX X cc own K) {at_ : ArrayType} {a : Nat} {n : Int32} (d : decode cc pc = .ok (.newarray at_, 2)) (w : Cond.arrayClass (newarray.typeOf at_) ∈ WA) (hty : newarray.typeOf at_ = atyT (aty a)) (ht7 : aty a < 7) (hn : ¬ n < 0) (hN : n.toNatClampNeg = K.alen a) (hby : K.alen a * componentBytes (newarray.typeOf at_) ≤ 536870912) (hz : ∀ z, V.2.2 z → z = K.aad a) (hpa : K.pa a) (hc : vp_cell (K.dA (aty a)) (K.alen a, acont I P (ainf a)) = arrV (K.dA (aty a)) (K.alen a) (fun _ => defaultValue (newarray.typeOf at_))) (hf : cells + 1 ≤ X.R.cells ∧ slots + K.alen a ≤ X.R.slots)
    (kk : J X K (addA K V a) I P (cells + 1) (slots + K.alen a) (pc + 2) lv (.ref (K.aad a) :: st)) : J X K V I P cells slots pc lv (.int n :: st) := by
  intro H locs ls a0 b e f g
  have ht := h.2.2.2.2.1
  have hsz : H.size = K.aad a := hz _ a0.2.2
  refine va_newaK h.1 h.2.1 (ht _ w) rfl d rfl hn hN hby hf.1 hf.2 rfl fun H1 cA e1 z1 o1 hAr hNm => ?_
  have hcA : cA = K.dA (aty a) := by
    have q := (h.2.2.2.2.2.1.2 (aty a) _ (tys_at K ht7)).2
    simp only [← hty] at q
    clear kk hc hby
    cases at_ <;> exact Option.some.inj (hNm.symm.trans q)
  have hlt : ∀ q (c : Cell), H[q]? = some c → H1[q]? = H[q]? := fun q c hq => o1 q (by
    rcases Nat.lt_or_ge q H.size with q1 | q1
    · exact q1
    · rw [Array.getElem?_eq_none q1] at hq; cases hq)
  have K2 := kk H1 locs ls ⟨fun c j hv => ?_, fun c hc' => ?_, ?_⟩ (Nat.le_trans b (by omega)) (fun q hq => (o1 q (Nat.lt_of_lt_of_le hq (Nat.le_trans h.2.2.2.2.2.2.1.1 b))).trans (e q hq)) f g
  · rw [← hsz] at K2
    exact K2
  · obtain ⟨p', r', hr', hob⟩ := a0.1 c j hv
    obtain ⟨cell, q1, q2⟩ := id hob
    exact ⟨p', r', hr', hob.kept (hlt _ _ q1)⟩
  · rcases hc' with hc' | rfl
    · obtain ⟨p', hc'⟩ := a0.2.1 c hc'
      exact ⟨p', (hlt _ _ hc').trans hc'⟩
    · refine ⟨hpa, ?_⟩
      rw [← hsz, hc, ← hcA]
      exact e1
  · show H1.size = K.aad a + 1
    omega
end JNEWA
