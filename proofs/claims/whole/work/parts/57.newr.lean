/-! arrays of references that are made -/
section JNEWR
variable {X : Jx} {cc : ByteArray} {own : String} {K : Kx} {V : Vx} {I : MI3} {P : MP} {cells slots pc : Nat} {lv : List (Nat × Value)} {st : List Value}
theorem j_anewa (h : OkX X cc own K) {idx a : Nat} {n : Int32} {C : String} (d : decode cc pc = .ok (.anewarray idx, 3)) (w1 : Cond.classLink own idx C ∈ WA) (w2 : Cond.arrayOver (.object C) ∈ NWN) (hty : atyT (aty a) = .object C) (ht7 : aty a < 7) (hn : ¬ n < 0) (hN : n.toNatClampNeg = K.alen a) (hby : K.alen a * 4 ≤ 536870912) (hz : ∀ z, V.2.2 z → z = K.aad a) (hpa : K.pa a) (hc : vp_cell (K.dA (aty a)) (K.alen a, acont I P (ainf a)) = arrV (K.dA (aty a)) (K.alen a) (fun _ => .null)) (hf : cells + 1 ≤ X.R.cells ∧ slots + K.alen a ≤ X.R.slots)
    (kk : J X K (addA K V a) I P (cells + 1) (slots + K.alen a) (pc + 3) lv (.ref (K.aad a) :: st)) : J X K V I P cells slots pc lv (.int n :: st) := by
  intro H locs ls a0 b e f g T hT Z
  have ht := h.2.2.2.2.1
  have hsz : H.size = K.aad a := hz _ a0.2.2
  obtain ⟨vm₁, cA, kA, comp, hW, hfA, hkA, hkk, hfC, ZT, go⟩ := Z.anewarrayRef h.1 h.2.2.2.1 (ht _ w1) (va_AO.use (h.2.2.2.2.2.2.1.2.1.2 _ w2)) (g := F0 X.m pc ls (.int n :: st)) rfl (by rw [h.2.1]; exact d) rfl hn (by rw [hN]; exact hby) hf.1 (by rw [hN]; exact hf.2)
  have hcA : cA = K.dA (aty a) := by
    have q := (h.2.2.2.2.2.1.2 (aty a) _ (tys_at K ht7)).2
    simp only [hty] at q
    obtain ⟨kB, comp2, -, -, -, q4⟩ := q
    exact Option.some.inj (hfA.symm.trans q4)
  rw [hN] at ZT go
  have hH1 : ((T.setVm vm₁).pushCell { cls := cA, slots := Array.replicate (K.alen a) .null, vm := .none }).heap = H.push { cls := cA, slots := Array.replicate (K.alen a) .null, vm := .none } := by rw [← hT]; rfl
  have hlt : ∀ q (c : Cell), H[q]? = some c → (H.push { cls := cA, slots := Array.replicate (K.alen a) .null, vm := .none })[q]? = H[q]? := fun q c hq => by
    rw [Array.getElem?_push, if_neg]
    intro q1
    rw [q1, Array.getElem?_eq_none (Nat.le_refl _)] at hq
    cases hq
  obtain ⟨t, a1, b1⟩ := kk (H.push { cls := cA, slots := Array.replicate (K.alen a) .null, vm := .none }) locs ls ⟨fun c j hv => by
      obtain ⟨p', r', hr', hob⟩ := a0.1 c j hv
      obtain ⟨cell, q1, q2⟩ := id hob
      exact ⟨p', r', hr', hob.kept (hlt _ _ q1)⟩, fun c hc' => by
      rcases hc' with hc' | rfl
      · obtain ⟨p', hc'⟩ := a0.2.1 c hc'
        exact ⟨p', (hlt _ _ hc').trans hc'⟩
      · refine ⟨hpa, ?_⟩
        rw [← hsz, hc, ← hcA, Array.getElem?_push, if_pos rfl]
        unfold arrV
        congr 2
        ext i h1 h2
        · simp
        · simp, by show (H.push _).size = K.aad a + 1; simp; omega⟩ (by simp; omega) (fun q hq => by
      rw [Array.getElem?_push, if_neg (Nat.ne_of_lt (Nat.lt_of_lt_of_le hq (Nat.le_trans h.2.2.2.2.2.2.1.1 b)))]
      exact e q hq) f g _ hH1 ZT
  refine ⟨t, go _ ?_, b1⟩
  rw [hT, hsz]
  exact a1
end JNEWR
