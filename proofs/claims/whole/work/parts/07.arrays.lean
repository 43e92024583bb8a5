section JA
variable {X : Jx} {cc : ByteArray} {own : String} {K : Kx} {V : Vx} {I : MI3} {P : MP} {cells slots pc : Nat} {lv : List (Nat × Value)} {st : List Value}
/-! arrays -/
theorem tys_at (K : Kx) {t : Nat} (h : t < 7) : (tysK K)[t]? = some (K.dA t, atyT t) := by
  unfold tysK
  rw [List.getElem?_map, List.getElem?_range h]
  rfl
theorem acont_i {f : Nat × Nat × Nat} {b col : Nat} (h : f = (0, b, col)) : acont I P f = .inl (I b col) := by subst h; rfl
theorem acont_l {f : Nat × Nat × Nat} {b col : Nat} (h : f = (1, b, col)) : acont I P f = .inr (.inl (fun j => Int64.ofNat ((P col j).getD 0))) := by subst h; rfl
theorem acont_q {f : Nat × Nat × Nat} {b col : Nat} (h : f = (2, b, col)) : acont I P f = .inr (.inr (.inr (.inr (P col)))) := by subst h; rfl
theorem n_in {j N : Nat} (h : j < N) (hN : N < 2147483648) : vp_in (nI j) N := vp_in_nI h hN
theorem j_iald (h : OkX X cc own K) {a b col j : Nat} {x : Int32} (d : decode cc pc = .ok (.iaload, 1)) (hi : ainf a = (0, b, col)) (ht : atyT (aty a) = .int ∧ aty a < 7) (ha : V.2.1 a) (hx : x = nI j) (hj : j < K.alen a) (hl : K.alen a < 2147483648) (kk : J X K V I P cells slots (pc + 1) lv (.int (I b col j) :: st)) : J X K V I P cells slots pc lv (.int x :: .ref (K.aad a) :: st) := by
  intro H locs ls w b' e f g
  subst hx
  have hin := n_in hj hl
  have hcl : (nI j).toNatClampNeg = j := nI_clamp (by omega)
  have hA := (w.2.1 a ha).2
  rw [acont_i hi] at hA
  refine W.iald (v := .int (I b col j)) h.1 h.2.1 hA (ht.1 ▸ (h.2.2.2.2.2.1.2 (aty a) _ (tys_at K ht.2)).1 (K.alen a) (fun j => .int (I b col j))) (fun q => by cases q) (by show ¬ (nI j < 0 ∨ (arrV _ _ _).slots.size ≤ _); rw [arrV_size]; exact hin) (by show (arrV _ _ _).slots[_]? = _; rw [hcl, arrV_read _ _ hj]) rfl rfl d (kk H locs ls w b' e f g)
theorem j_zald (h : OkX X cc own K) {a b col j : Nat} {x : Int32} (d : decode cc pc = .ok (.baload, 1)) (hi : ainf a = (0, b, col)) (ht : atyT (aty a) = .boolean ∧ aty a < 7) (ha : V.2.1 a) (hx : x = nI j) (hj : j < K.alen a) (hl : K.alen a < 2147483648) (kk : J X K V I P cells slots (pc + 1) lv (.int (I b col j) :: st)) : J X K V I P cells slots pc lv (.int x :: .ref (K.aad a) :: st) := by
  intro H locs ls w b' e f g
  subst hx
  have hin := n_in hj hl
  have hcl : (nI j).toNatClampNeg = j := nI_clamp (by omega)
  have hA := (w.2.1 a ha).2
  rw [acont_i hi] at hA
  refine W.zald (v := .int (I b col j)) h.1 h.2.1 hA (ht.1 ▸ (h.2.2.2.2.2.1.2 (aty a) _ (tys_at K ht.2)).1 (K.alen a) (fun j => .int (I b col j))) (fun q => by cases q) (by show ¬ (nI j < 0 ∨ (arrV _ _ _).slots.size ≤ _); rw [arrV_size]; exact hin) (by show (arrV _ _ _).slots[_]? = _; rw [hcl, arrV_read _ _ hj]) rfl rfl d (kk H locs ls w b' e f g)
theorem j_aald (h : OkX X cc own K) {a b col j q : Nat} {x : Int32} {C : String} (d : decode cc pc = .ok (.aaload, 1)) (hi : ainf a = (2, b, col)) (ht : atyT (aty a) = .object C ∧ aty a < 7) (ha : V.2.1 a) (hx : x = nI j) (hj : j < K.alen a) (hl : K.alen a < 2147483648) (hp : P col j = some q) (kk : J X K V I P cells slots (pc + 1) lv (.ref q :: st)) : J X K V I P cells slots pc lv (.int x :: .ref (K.aad a) :: st) := by
  intro H locs ls w b' e f g
  subst hx
  have hin := n_in hj hl
  have hcl : (nI j).toNatClampNeg = j := nI_clamp (by omega)
  have hA := (w.2.1 a ha).2
  rw [acont_q hi] at hA
  refine W.aald (v := .ref q) (ty := .object C) h.1 h.2.1 hA (ht.1 ▸ (h.2.2.2.2.2.1.2 (aty a) _ (tys_at K ht.2)).1 (K.alen a) (fun j => va_rf (P col j))) rfl (fun q => by cases q) (by show ¬ (nI j < 0 ∨ (arrV _ _ _).slots.size ≤ _); rw [arrV_size]; exact hin) (by show (arrV _ _ _).slots[_]? = _; rw [hcl, arrV_read _ _ hj, hp]; rfl) rfl rfl d (kk H locs ls w b' e f g)
theorem j_alen (h : OkX X cc own K) {a : Nat} (d : decode cc pc = .ok (.arraylength, 1)) (ht : aty a < 7) (ha : V.2.1 a) (kk : J X K V I P cells slots (pc + 1) lv (.int (nI (K.alen a)) :: st)) : J X K V I P cells slots pc lv (.ref (K.aad a) :: st) := by
  intro H locs ls w b' e f g
  have hA := (w.2.1 a ha).2
  have hT := (h.2.2.2.2.2.1.2 (aty a) _ (tys_at K ht)).1
  have kk := kk H locs ls w b' e f g
  generalize acont I P (ainf a) = x at hA
  obtain x | x | x | x | x := x
  · exact W.alen (n := nI (K.alen a)) h.1 h.2.1 hA (hT (K.alen a) (fun j => .int (x j))) (by rw [vp_cell_i, arrV_size] <;> rfl) rfl rfl d kk
  · exact W.alen (n := nI (K.alen a)) h.1 h.2.1 hA (hT (K.alen a) (fun j => .long (x j))) (by rw [vp_cell_l, arrV_size] <;> rfl) rfl rfl d kk
  · exact W.alen (n := nI (K.alen a)) h.1 h.2.1 hA (hT (K.alen a) (fun j => .float (x j))) (by rw [vp_cell_f, arrV_size] <;> rfl) rfl rfl d kk
  · exact W.alen (n := nI (K.alen a)) h.1 h.2.1 hA (hT (K.alen a) (fun j => .double (x j))) (by rw [vp_cell_d, arrV_size] <;> rfl) rfl rfl d kk
  · exact W.alen (n := nI (K.alen a)) h.1 h.2.1 hA (hT (K.alen a) (fun j => va_rf (x j))) (by rw [vp_cell_q, arrV_size] <;> rfl) rfl rfl d kk
/-- an array's cell has become another one -/
theorem Wd_ast {H H1 : Heap} {a : Nat} {I' : MI3} {P' : MP} (hap : K.apart) (hw : Wd K V I P H) (ha : V.2.1 a) (hnew : H1[K.aad a]? = some (vp_cell (K.dA (aty a)) (K.alen a, acont I' P' (ainf a)))) (oq : ∀ q, q ≠ K.aad a → H1[q]? = H[q]?) (hz : H1.size = H.size)
    (hf : ∀ ci r k i, classes[ci]? = some r → k < r.2.2 → fval I' P' (cinf ci k) i = fval I P (cinf ci k) i) (hA : ∀ a', a' < 60 → a' ≠ a → acont I' P' (ainf a') = acont I P (ainf a')) : Wd K V I' P' H1 := by
  refine ⟨fun ci' i' hv' => ?_, fun a' ha' => ?_, by rw [hz]; exact hw.2.2⟩
  · obtain ⟨p', r', hr', hob⟩ := hw.1 ci' i' hv'
    exact ⟨p', r', hr', (hob.kept (oq _ (hap.2.2.1 ci' i' a p' (hw.2.1 a ha).1))).to (fun j hj => (hf ci' r' j i' hr' hj).symm)⟩
  · obtain ⟨pa, z⟩ := hw.2.1 a' ha'
    refine ⟨pa, ?_⟩
    by_cases hq : a' = a
    · subst hq; exact hnew
    · rw [hA a' (hap.2.2.2.2.2 a' pa) hq, oq _ (fun z9 => hq (hap.2.1 a' a pa (hw.2.1 a ha).1 z9))]
      exact z
theorem bup_col (I : MI3) (b col j : Nat) (x : Int32) : bup I b col j x b col = upd (I b col) j x := by
  funext i
  simp [bup, up, upd]
theorem j_iast (h : OkX X cc own K) {a b col j : Nat} {x y : Int32} (d : decode cc pc = .ok (.iastore, 1)) (hi : ainf a = (0, b, col)) (ht : atyT (aty a) = .int ∧ aty a < 7) (ha : V.2.1 a) (hx : x = nI j) (hj : j < K.alen a) (hl : K.alen a < 2147483648) (kk : J X K V (bup I b col j y) P cells slots (pc + 1) lv st) : J X K V I P cells slots pc lv (.int y :: .int x :: .ref (K.aad a) :: st) := by
  intro H locs ls w b' e f g
  subst hx
  have hin := n_in hj hl
  have hcl : (nI j).toNatClampNeg = j := nI_clamp (by omega)
  have hap := h.2.2.2.2.2.2.2
  have hA := (w.2.1 a ha).2
  have hpa := (w.2.1 a ha).1
  rw [acont_i hi] at hA
  refine W.iast h.1 h.2.1 hA (ht.1 ▸ (h.2.2.2.2.2.1.2 (aty a) _ (tys_at K ht.2)).1 (K.alen a) (fun j => .int (I b col j))) (fun q => by cases q) (by show ¬ (nI j < 0 ∨ (arrV _ _ _).slots.size ≤ _); rw [arrV_size]; exact hin) rfl rfl d fun H1 e1 z oq => ?_
  have hba := hap.2.2.2.2.1 a hpa
  refine kk H1 _ ls (Wd_ast hap w ha ?_ oq z (fun ci r k i hr hk => fval_bup (fun hf => absurd hi (tbl_fa hr hk hf (hap.2.2.2.2.2 a hpa)))) (fun a' h1 h2 => acont_bup (fun hf => h2 (tbl_aa h1 (hap.2.2.2.2.2 a hpa) (by rw [hf, hi]))))) (by rw [z]; exact b') (fun q hq => by rw [oq q (Nat.ne_of_lt (Nat.lt_of_lt_of_le hq hba))]; exact e q hq) (t_lc f hba) g
  rw [e1, acont_i hi, bup_col, vp_cell_i, vp_cell_i, arrV_store, hcl]
  congr 2
  funext q
  by_cases hq : q = j
  · subst hq; simp [updV, upd]
  · simp [updV, upd, hq]
theorem j_zast (h : OkX X cc own K) {a b col j : Nat} {x y : Int32} (d : decode cc pc = .ok (.bastore, 1)) (hi : ainf a = (0, b, col)) (ht : atyT (aty a) = .boolean ∧ aty a < 7) (ha : V.2.1 a) (hx : x = nI j) (hj : j < K.alen a) (hl : K.alen a < 2147483648) (hz : y = 0 ∨ y = 1) (kk : J X K V (bup I b col j y) P cells slots (pc + 1) lv st) : J X K V I P cells slots pc lv (.int y :: .int x :: .ref (K.aad a) :: st) := by
  intro H locs ls w b' e f g
  subst hx
  have hin := n_in hj hl
  have hcl : (nI j).toNatClampNeg = j := nI_clamp (by omega)
  have hap := h.2.2.2.2.2.2.2
  have hA := (w.2.1 a ha).2
  have hpa := (w.2.1 a ha).1
  rw [acont_i hi] at hA
  refine W.zast h.1 h.2.1 hA (ht.1 ▸ (h.2.2.2.2.2.1.2 (aty a) _ (tys_at K ht.2)).1 (K.alen a) (fun j => .int (I b col j))) (fun q => by cases q) (by show ¬ (nI j < 0 ∨ (arrV _ _ _).slots.size ≤ _); rw [arrV_size]; exact hin) rfl rfl d fun H1 e1 z oq => ?_
  have hba := hap.2.2.2.2.1 a hpa
  refine kk H1 _ ls (Wd_ast hap w ha ?_ oq z (fun ci r k i hr hk => fval_bup (fun hf => absurd hi (tbl_fa hr hk hf (hap.2.2.2.2.2 a hpa)))) (fun a' h1 h2 => acont_bup (fun hf => h2 (tbl_aa h1 (hap.2.2.2.2.2 a hpa) (by rw [hf, hi]))))) (by rw [z]; exact b') (fun q hq => by rw [oq q (Nat.ne_of_lt (Nat.lt_of_lt_of_le hq hba))]; exact e q hq) (t_lc f hba) g
  rw [e1, acont_i hi, bup_col, vp_cell_i, vp_cell_i, arrV_store, hcl, z_nar hz]
  congr 2
  funext q
  by_cases hq : q = j
  · subst hq; simp [updV, upd]
  · simp [updV, upd, hq]
theorem up_col {α : Type} (f : Nat → Nat → α) (col j : Nat) (x : α) : up f col j x col = va_up (f col) j x := by
  funext i
  simp [up, va_up]
theorem j_aast (h : OkX X cc own K) {a b col j ci i : Nat} {x : Int32} {r : vw_C} (d : decode cc pc = .ok (.aastore, 1)) (hi : ainf a = (2, b, col)) (hr : classes[ci]? = some r) (ht : atyT (aty a) = .object r.1 ∧ aty a < 7) (ha : V.2.1 a) (hv : V.1 ci i) (hx : x = nI j) (hj : j < K.alen a) (hl : K.alen a < 2147483648) (kk : J X K V I (up P col j (some (K.ad ci i))) cells slots (pc + 1) lv st) : J X K V I P cells slots pc lv (.ref (K.ad ci i) :: .int x :: .ref (K.aad a) :: st) := by
  intro H locs ls w b' e f g
  subst hx
  have hin := n_in hj hl
  have hcl : (nI j).toNatClampNeg = j := nI_clamp (by omega)
  have h0 : ¬ nI j < 0 := fun q => hin (Or.inl q)
  have hap := h.2.2.2.2.2.2.2
  have hK := h.2.2.2.2.2.1
  have hA := (w.2.1 a ha).2
  have hpa := (w.2.1 a ha).1
  rw [acont_q hi] at hA
  obtain ⟨hpv, r', hr', cellV, g1, g2, g3, -⟩ := w.1 ci i hv
  cases Option.some.inj (hr.symm.trans hr')
  have hcls := (hK.1 ci r hr).2
  have hRA := (hK.2 (aty a) _ (tys_at K ht.2)).2
  have hRA : va_RA X.s (K.dA (aty a)) (.object r.1) := ht.1 ▸ hRA
  obtain ⟨kA, comp, k1, k2, k3, -⟩ := hRA
  have hcomp : comp = K.dC ci := Option.some.inj (k3.symm.trans hcls.1)
  subst hcomp
  obtain ⟨kC, hkC, -⟩ := hcls.2
  refine W.aast h.1 h.2.1 hA (fun q h => by cases h) (fun h => by cases h) k1 k2 rfl hkC ⟨h0, by show _ < (arrV _ _ _).slots.size; rw [arrV_size, hcl]; exact hj⟩ g1 (fun q h => by rw [g3] at h; cases h) (by rw [g2]; exact hkC) (by rw [g2]; exact va_assign hcls) rfl rfl d fun H1 e1 z oq => ?_
  have hba := hap.2.2.2.2.1 a hpa
  refine kk H1 _ ls (Wd_ast hap w ha ?_ oq z (fun ci r k i hr hk => fval_up (b := b) (fun h1 h2 => absurd (by rw [hi]; exact h2.symm) (tbl_ra hr hk (b := (cinf ci k).2.1) (col := (cinf ci k).2.2) (by rw [← h1]) (hap.2.2.2.2.2 a hpa) (by rw [hi]; exact (by simp))))) (fun a' h1 h2 => acont_up (fun hf h3 => h2 (tbl_rr2 h1 (hap.2.2.2.2.2 a hpa) hf (by rw [hi]; exact (by simp)) (by rw [h3, hi]))))) (by rw [z]; exact b') (fun q hq => by rw [oq q (Nat.ne_of_lt (Nat.lt_of_lt_of_le hq hba))]; exact e q hq) (t_lc f hba) g
  rw [e1, acont_q hi, up_col, vp_cell_q, vp_cell_q, arrV_store, hcl]
  congr 2
  funext q
  by_cases hq : q = j
  · subst hq; simp [updV, va_up, va_rf]
  · simp [updV, va_up, hq]
end JA
