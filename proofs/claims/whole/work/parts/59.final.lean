/-! final fields, written by constructors -/
section JPF
variable {X : Jx} {cc : ByteArray} {own : String} {K : Kx} {V : Vx} {I : MI3} {A B C D : MI} {P : MP} {cells slots pc : Nat} {lv : List (Nat × Value)} {st : List Value}
theorem j_putFV (h : OkX X cc own K) (hin : X.meth.name = "<init>") {idx ci k i : Nat} {v : Value} {I' : MI3} {P' : MP} (d : decode cc pc = .ok (.putfield idx, 3)) (w : FI own idx ci k) (hv : V.1 ci i) (hn : narrow (ftyp ci k) v = v) (hfit : fits (ftyp ci k) v = true)
    (hW : ∀ (H H1 : Heap) (r : vw_C), Wd K V I P H → classes[ci]? = some r → k < r.2.2 → t_OB (K.ad ci i) (K.dC ci) r.2.2 (K.dI ci) H1 (updV (fun k => fval I P (cinf ci k) i) k v) → (∀ q, q ≠ K.ad ci i → H1[q]? = H[q]?) → H1.size = H.size → Wd K V I' P' H1)
    (kk : J X K V I' P' cells slots (pc + 3) lv st) : J X K V I P cells slots pc lv (v :: .ref (K.ad ci i) :: st) := by
  intro H locs ls a b' e f g
  obtain ⟨r, hr, hk, hd0, hw, hfin, hro⟩ := w
  obtain ⟨hpv, r', hr', cell, q1, q2, q3, q4⟩ := a.1 ci i hv
  cases Option.some.inj (hr.symm.trans hr')
  have hts := h.2.2.2.2.1
  have hK := h.2.2.2.2.2.1
  have hap := h.2.2.2.2.2.2.2
  have hsa := va_apart (own := own) hts (cls_in ci r hr) (ftyp ci) (cls_ty ci r hr) (cls_nm ci r hr) hK hr
  obtain ⟨hS, hfc, kC, hkC, hkind⟩ := hK.1 ci r hr
  obtain ⟨cf, kf, fi, fd, hi, hsl⟩ := hS k hk
  have hlay := hts _ (cls_in ci r hr _ (u_in_lay hk))
  unfold u_lay at hlay
  rw [if_pos hfin] at hlay
  have hst := (u_facts hfc hkC (u_lays hts (cls_in ci r hr) hk) hi).1
  have hcf : X.m.cls = cf := by
    obtain ⟨_, _, c', _, _, _, -, -, hf', -, -, -, hown2, -⟩ := Cond.laysFinal_spec hlay
    have e1 : c' = cf := by have := hi.symm.trans hf'; simp at this; exact this.1.symm
    rw [hd0, hro] at hown2
    rw [← e1]; exact Option.some.inj (h.2.2.2.1.symm.trans hown2)
  have h6 := u_fits hfc hkC hkind (Or.inr hlay) hi (cls_ty ci r hr k hk) hn hfit
  refine W.putFinK h.1 h.2.1 h.2.2.2.1 (hts _ hw) (hd0 ▸ hi) hst hcf hin (by rw [q2]; exact h6) q1 q3 (by rw [hsl]; exact k2_hasslot (q4 k hk)) rfl rfl d fun H' e1 e2 e3 => ?_
  rw [hsl] at e1 ⊢
  have hba : K.base ≤ K.ad ci i := hap.2.2.2.1 ci i hpv
  refine kk H' _ ls (hW H H' r a hr hk ⟨_, e1, q2, q3, t_set q4 hsa hk v⟩ e3 e2) (by rw [e2]; exact b') (fun q hq => ?_) (t_lc f hba) g
  rw [e3 q (Nat.ne_of_lt (Nat.lt_of_lt_of_le hq hba))]
  exact e q hq
theorem j_putF (h : OkX X cc own K) (hin : X.meth.name = "<init>") {idx ci k i b col : Nat} {v : Int32} (d : decode cc pc = .ok (.putfield idx, 3)) (w : FI own idx ci k) (hc : cinf ci k = (false, b, col)) (hty : ftyp ci k = .int) (hv : V.1 ci i) (kk : J X K V (bup I b col i v) P cells slots (pc + 3) lv st) : J X K V I P cells slots pc lv (.int v :: .ref (K.ad ci i) :: st) :=
  j_putFV h hin d w hv (by rw [hty]; rfl) (by rw [hty]; rfl) (fun _ _ _ a hr hk hn oq hz => Wd_put h.2.2.2.2.2.2.2 a hv hr hk hc hn oq hz) kk
theorem j_putFR (h : OkX X cc own K) (hin : X.meth.name = "<init>") {idx ci k i b col q : Nat} (d : decode cc pc = .ok (.putfield idx, 3)) (w : FI own idx ci k) (hc : cinf ci k = (true, b, col)) (hty : narrow (ftyp ci k) (.ref q) = .ref q ∧ fits (ftyp ci k) (.ref q) = true) (hv : V.1 ci i) (kk : J X K V I (up P col i (some q)) cells slots (pc + 3) lv st) : J X K V I P cells slots pc lv (.ref q :: .ref (K.ad ci i) :: st) :=
  j_putFV h hin d w hv hty.1 hty.2 (fun _ _ _ a hr hk hn oq hz => Wd_putR (v := some q) h.2.2.2.2.2.2.2 a hv hr hk hc hn oq hz) kk
theorem j_putF0 (h : OkX X cc own K) (hin : X.meth.name = "<init>") {idx ci k i col : Nat} {v : Int32} (d : decode cc pc = .ok (.putfield idx, 3)) (w : FI own idx ci k) (hc : cinf ci k = (false, 0, col)) (hty : ftyp ci k = .int) (hv : V.1 ci i) (kk : J X K V (bk4 (up A col i v) B C D) P cells slots (pc + 3) lv st) : J X K V (bk4 A B C D) P cells slots pc lv (.int v :: .ref (K.ad ci i) :: st) := j_putF h hin d w hc hty hv (by rw [bup_0]; exact kk)
theorem j_putF1 (h : OkX X cc own K) (hin : X.meth.name = "<init>") {idx ci k i col : Nat} {v : Int32} (d : decode cc pc = .ok (.putfield idx, 3)) (w : FI own idx ci k) (hc : cinf ci k = (false, 1, col)) (hty : ftyp ci k = .int) (hv : V.1 ci i) (kk : J X K V (bk4 A (up B col i v) C D) P cells slots (pc + 3) lv st) : J X K V (bk4 A B C D) P cells slots pc lv (.int v :: .ref (K.ad ci i) :: st) := j_putF h hin d w hc hty hv (by rw [bup_1]; exact kk)
theorem j_putF2 (h : OkX X cc own K) (hin : X.meth.name = "<init>") {idx ci k i col : Nat} {v : Int32} (d : decode cc pc = .ok (.putfield idx, 3)) (w : FI own idx ci k) (hc : cinf ci k = (false, 2, col)) (hty : ftyp ci k = .int) (hv : V.1 ci i) (kk : J X K V (bk4 A B (up C col i v) D) P cells slots (pc + 3) lv st) : J X K V (bk4 A B C D) P cells slots pc lv (.int v :: .ref (K.ad ci i) :: st) := j_putF h hin d w hc hty hv (by rw [bup_2]; exact kk)
theorem j_putF3 (h : OkX X cc own K) (hin : X.meth.name = "<init>") {idx ci k i col : Nat} {v : Int32} (d : decode cc pc = .ok (.putfield idx, 3)) (w : FI own idx ci k) (hc : cinf ci k = (false, 3, col)) (hty : ftyp ci k = .int) (hv : V.1 ci i) (kk : J X K V (bk4 A B C (up D col i v)) P cells slots (pc + 3) lv st) : J X K V (bk4 A B C D) P cells slots pc lv (.int v :: .ref (K.ad ci i) :: st) := j_putF h hin d w hc hty hv (by rw [bup_3]; exact kk)
end JPF
