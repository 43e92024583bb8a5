section JF
variable {X : Jx} {cc : ByteArray} {own : String} {K : Kx} {V : Vx} {I : MI3} {P : MP} {cells slots pc : Nat} {lv : List (Nat × Value)} {st : List Value}
theorem j_if_eq (h : OkX X cc own K) {x : Int32} {off : Int} {tgt : Nat} (d : decode cc pc = .ok (.ifCond .eq off, 3)) (ht : (pc : Int) + off = (tgt : Int)) (kt : x = 0 → J X K V I P cells slots tgt lv st) (kf : ¬ x = 0 → J X K V I P cells slots (pc + 3) lv st) : J X K V I P cells slots pc lv (.int x :: st) :=
  fun H locs ls a b e f g => lv_if_eq h.1 h.2.1 d ht (fun z => kt z H locs ls a b e f g) (fun z => kf z H locs ls a b e f g)
theorem j_if_ne (h : OkX X cc own K) {x : Int32} {off : Int} {tgt : Nat} (d : decode cc pc = .ok (.ifCond .ne off, 3)) (ht : (pc : Int) + off = (tgt : Int)) (kt : ¬ x = 0 → J X K V I P cells slots tgt lv st) (kf : x = 0 → J X K V I P cells slots (pc + 3) lv st) : J X K V I P cells slots pc lv (.int x :: st) :=
  fun H locs ls a b e f g => lv_if_ne h.1 h.2.1 d ht (fun z => kt z H locs ls a b e f g) (fun z => kf z H locs ls a b e f g)
theorem j_if_lt (h : OkX X cc own K) {x : Int32} {off : Int} {tgt : Nat} (d : decode cc pc = .ok (.ifCond .lt off, 3)) (ht : (pc : Int) + off = (tgt : Int)) (kt : x < 0 → J X K V I P cells slots tgt lv st) (kf : ¬ x < 0 → J X K V I P cells slots (pc + 3) lv st) : J X K V I P cells slots pc lv (.int x :: st) :=
  fun H locs ls a b e f g => lv_if_lt h.1 h.2.1 d ht (fun z => kt z H locs ls a b e f g) (fun z => kf z H locs ls a b e f g)
theorem j_if_ge (h : OkX X cc own K) {x : Int32} {off : Int} {tgt : Nat} (d : decode cc pc = .ok (.ifCond .ge off, 3)) (ht : (pc : Int) + off = (tgt : Int)) (kt : 0 ≤ x → J X K V I P cells slots tgt lv st) (kf : ¬ 0 ≤ x → J X K V I P cells slots (pc + 3) lv st) : J X K V I P cells slots pc lv (.int x :: st) :=
  fun H locs ls a b e f g => lv_if_ge h.1 h.2.1 d ht (fun z => kt z H locs ls a b e f g) (fun z => kf z H locs ls a b e f g)
theorem j_if_gt (h : OkX X cc own K) {x : Int32} {off : Int} {tgt : Nat} (d : decode cc pc = .ok (.ifCond .gt off, 3)) (ht : (pc : Int) + off = (tgt : Int)) (kt : 0 < x → J X K V I P cells slots tgt lv st) (kf : ¬ 0 < x → J X K V I P cells slots (pc + 3) lv st) : J X K V I P cells slots pc lv (.int x :: st) :=
  fun H locs ls a b e f g => lv_if_gt h.1 h.2.1 d ht (fun z => kt z H locs ls a b e f g) (fun z => kf z H locs ls a b e f g)
theorem j_if_le (h : OkX X cc own K) {x : Int32} {off : Int} {tgt : Nat} (d : decode cc pc = .ok (.ifCond .le off, 3)) (ht : (pc : Int) + off = (tgt : Int)) (kt : x ≤ 0 → J X K V I P cells slots tgt lv st) (kf : ¬ x ≤ 0 → J X K V I P cells slots (pc + 3) lv st) : J X K V I P cells slots pc lv (.int x :: st) :=
  fun H locs ls a b e f g => lv_if_le h.1 h.2.1 d ht (fun z => kt z H locs ls a b e f g) (fun z => kf z H locs ls a b e f g)
theorem j_ic_eq (h : OkX X cc own K) {x y : Int32} {off : Int} {tgt : Nat} (d : decode cc pc = .ok (.if_icmp .eq off, 3)) (ht : (pc : Int) + off = (tgt : Int)) (kt : x = y → J X K V I P cells slots tgt lv st) (kf : ¬ x = y → J X K V I P cells slots (pc + 3) lv st) : J X K V I P cells slots pc lv (.int y :: .int x :: st) :=
  fun H locs ls a b e f g => lv_icmp_eq h.1 h.2.1 d ht (fun z => kt z H locs ls a b e f g) (fun z => kf z H locs ls a b e f g)
theorem j_ic_ne (h : OkX X cc own K) {x y : Int32} {off : Int} {tgt : Nat} (d : decode cc pc = .ok (.if_icmp .ne off, 3)) (ht : (pc : Int) + off = (tgt : Int)) (kt : ¬ x = y → J X K V I P cells slots tgt lv st) (kf : x = y → J X K V I P cells slots (pc + 3) lv st) : J X K V I P cells slots pc lv (.int y :: .int x :: st) :=
  fun H locs ls a b e f g => lv_icmp_ne h.1 h.2.1 d ht (fun z => kt z H locs ls a b e f g) (fun z => kf z H locs ls a b e f g)
theorem j_ic_lt (h : OkX X cc own K) {x y : Int32} {off : Int} {tgt : Nat} (d : decode cc pc = .ok (.if_icmp .lt off, 3)) (ht : (pc : Int) + off = (tgt : Int)) (kt : x < y → J X K V I P cells slots tgt lv st) (kf : ¬ x < y → J X K V I P cells slots (pc + 3) lv st) : J X K V I P cells slots pc lv (.int y :: .int x :: st) :=
  fun H locs ls a b e f g => lv_icmp_lt h.1 h.2.1 d ht (fun z => kt z H locs ls a b e f g) (fun z => kf z H locs ls a b e f g)
theorem j_ic_ge (h : OkX X cc own K) {x y : Int32} {off : Int} {tgt : Nat} (d : decode cc pc = .ok (.if_icmp .ge off, 3)) (ht : (pc : Int) + off = (tgt : Int)) (kt : y ≤ x → J X K V I P cells slots tgt lv st) (kf : ¬ y ≤ x → J X K V I P cells slots (pc + 3) lv st) : J X K V I P cells slots pc lv (.int y :: .int x :: st) :=
  fun H locs ls a b e f g => lv_icmp_ge h.1 h.2.1 d ht (fun z => kt z H locs ls a b e f g) (fun z => kf z H locs ls a b e f g)
theorem j_ic_gt (h : OkX X cc own K) {x y : Int32} {off : Int} {tgt : Nat} (d : decode cc pc = .ok (.if_icmp .gt off, 3)) (ht : (pc : Int) + off = (tgt : Int)) (kt : y < x → J X K V I P cells slots tgt lv st) (kf : ¬ y < x → J X K V I P cells slots (pc + 3) lv st) : J X K V I P cells slots pc lv (.int y :: .int x :: st) :=
  fun H locs ls a b e f g => lv_icmp_gt h.1 h.2.1 d ht (fun z => kt z H locs ls a b e f g) (fun z => kf z H locs ls a b e f g)
theorem j_ic_le (h : OkX X cc own K) {x y : Int32} {off : Int} {tgt : Nat} (d : decode cc pc = .ok (.if_icmp .le off, 3)) (ht : (pc : Int) + off = (tgt : Int)) (kt : x ≤ y → J X K V I P cells slots tgt lv st) (kf : ¬ x ≤ y → J X K V I P cells slots (pc + 3) lv st) : J X K V I P cells slots pc lv (.int y :: .int x :: st) :=
  fun H locs ls a b e f g => lv_icmp_le h.1 h.2.1 d ht (fun z => kt z H locs ls a b e f g) (fun z => kf z H locs ls a b e f g)
theorem j_lcmp (h : OkX X cc own K) {x y : Int64} (d : decode cc pc = .ok (.lcmp, 1)) (k : J X K V I P cells slots (pc + 1) lv (.int (lg_cmp x y) :: st)) : J X K V I P cells slots pc lv (.long y :: .long x :: st) :=
  fun H locs ls a b e f g => W.lcmp h.1 h.2.1 d (k H locs ls a b e f g)
/-- fewer names of locals -/
theorem j_lv {lv' : List (Nat × Value)} (hs : ∀ q ∈ lv', getL lv q.1 = some q.2) (k : J X K V I P cells slots pc lv' st) : J X K V I P cells slots pc lv st :=
  fun H locs ls a b e f g => k H locs ls a b e f (hasL_sub g hs)
theorem j_widen {k n : Nat} (h1 : cells ≤ k) (h2 : slots ≤ n) (kk : J X K V I P k n pc lv st) : J X K V I P cells slots pc lv st :=
  fun H locs ls a b e f g => W.widen h1 h2 (kk H locs ls a b e f g)
theorem j_eq {I' : MI3} {P' : MP} {lv' : List (Nat × Value)} {st' : List Value} (hI : I = I') (hP : P = P') (hl : lv = lv') (hst : st = st') (k : J X K V I' P' cells slots pc lv' st') : J X K V I P cells slots pc lv st := by
  subst hI; subst hP; subst hl; subst hst; exact k
/-- the field number k of class ci, by the entry idx of own's pool -/
def FL (own : String) (idx ci k : Nat) : Prop := ∃ r : vw_C, classes[ci]? = some r ∧ k < r.2.2 ∧ (r.2.1 k).1 = r.1 ∧ Cond.fieldLink own idx r.1 (r.2.1 k).2.1 (r.2.1 k).2.2.1 ∈ WA
theorem j_getV (h : OkX X cc own K) {idx ci k i : Nat} {v : Value} (d : decode cc pc = .ok (.getfield idx, 3)) (w : FL own idx ci k) (hv : V.1 ci i) (hc : fval I P (cinf ci k) i = v) (kk : J X K V I P cells slots (pc + 3) lv (v :: st)) : J X K V I P cells slots pc lv (.ref (K.ad ci i) :: st) := by
  intro H locs ls a b' e f g
  obtain ⟨r, hr, hk, hd0, hw⟩ := w
  obtain ⟨hpv, r', hr', cell, q1, q2, q3, q4⟩ := a.1 ci i hv
  cases Option.some.inj (hr.symm.trans hr')
  obtain ⟨hS, hfc, kC, hkC, hkind⟩ := h.2.2.2.2.2.1.1 ci r hr
  obtain ⟨cf, kf, fi, fd, hi, hsl⟩ := hS k hk
  refine W.getf h.1 h.2.1 h.2.2.2.1 (h.2.2.2.2.1 _ hw) (hd0 ▸ hi) (u_facts hfc hkC (u_lays h.2.2.2.2.1 (cls_in ci r hr) hk) hi).1 q1 (by rw [q3]; exact fun z => by cases z) (v := v) ?_ rfl rfl d (kk H locs ls a b' e f g)
  rw [hsl, q4 k hk]
  exact congrArg some hc
theorem j_get (h : OkX X cc own K) {idx ci k i b col : Nat} (d : decode cc pc = .ok (.getfield idx, 3)) (w : FL own idx ci k) (hc : cinf ci k = (false, b, col)) (hv : V.1 ci i) (kk : J X K V I P cells slots (pc + 3) lv (.int (I b col i) :: st)) : J X K V I P cells slots pc lv (.ref (K.ad ci i) :: st) :=
  j_getV h d w hv (by rw [hc]; rfl) kk
theorem j_getR (h : OkX X cc own K) {idx ci k i b col q : Nat} (d : decode cc pc = .ok (.getfield idx, 3)) (w : FL own idx ci k) (hc : cinf ci k = (true, b, col)) (hv : V.1 ci i) (hp : P col i = some q) (kk : J X K V I P cells slots (pc + 3) lv (.ref q :: st)) : J X K V I P cells slots pc lv (.ref (K.ad ci i) :: st) :=
  j_getV h d w hv (by rw [hc]; show va_rf (P col i) = _; rw [hp]; rfl) kk
theorem Wd_kept {H H1 : Heap} (hap : K.apart) (hw : Wd K V I P H) (oq : ∀ q, q < H.size → H1[q]? = H[q]?) (V' : Vx) (h1 : ∀ c i, V'.1 c i → V.1 c i) (h2 : ∀ a, V'.2.1 a → V.2.1 a) (h3 : V'.2.2 H1.size) : Wd K V' I P H1 := by
  refine ⟨fun ci i hv => ?_, fun a ha => ?_, h3⟩
  · obtain ⟨p', r', hr', hob⟩ := hw.1 ci i (h1 ci i hv)
    refine ⟨p', r', hr', hob.kept (oq _ ?_)⟩
    obtain ⟨cell, z, -⟩ := hob
    exact (Array.getElem?_eq_some_iff.mp z).1
  · obtain ⟨pa, z⟩ := hw.2.1 a (h2 a ha)
    exact ⟨pa, by rw [oq _ (Array.getElem?_eq_some_iff.mp z).1]; exact z⟩
theorem Wd_put {H H1 : Heap} {ci k i b col : Nat} {v : Int32} {r : vw_C} (hap : K.apart) (hw : Wd K V I P H) (hv : V.1 ci i) (hr : classes[ci]? = some r) (hk : k < r.2.2) (hc : cinf ci k = (false, b, col))
    (hnew : t_OB (K.ad ci i) (K.dC ci) r.2.2 (K.dI ci) H1 (updV (fun k => fval I P (cinf ci k) i) k (.int v))) (oq : ∀ q, q ≠ K.ad ci i → H1[q]? = H[q]?) (hz : H1.size = H.size) : Wd K V (bup I b col i v) P H1 := by
  refine ⟨fun ci' i' hv' => ?_, fun a ha => ?_, by rw [hz]; exact hw.2.2⟩
  · obtain ⟨p', r', hr', hob⟩ := hw.1 ci' i' hv'
    refine ⟨p', r', hr', ?_⟩
    by_cases hq : K.ad ci' i' = K.ad ci i
    · obtain ⟨e1, e2⟩ := hap.1 ci' i' ci i p' (hw.1 ci i hv).1 hq
      subst e1; subst e2
      cases Option.some.inj (hr.symm.trans hr')
      refine hnew.to (fun j hj => ?_)
      by_cases hjk : j = k
      · subst hjk
        simp [updV, fval, hc, bup, up]
      · simp only [updV, if_neg hjk]
        exact (fval_bup (fun hf => absurd (tbl_ff hr hj hr hk (hf.trans hc.symm)).2 hjk)).symm
    · refine (hob.kept (oq _ hq)).to (fun j hj => ?_)
      refine (fval_bup (fun hf => ?_)).symm
      intro hi
      have := (tbl_ff hr' hj hr hk (hf.trans hc.symm)).1
      subst this; subst hi
      exact hq rfl
  · obtain ⟨pa, z⟩ := hw.2.1 a ha
    refine ⟨pa, ?_⟩
    rw [acont_bup (tbl_fa hr hk hc (hap.2.2.2.2.2 a pa)), oq _ (fun z9 => hap.2.2.1 ci i a (hw.1 ci i hv).1 pa z9.symm)]
    exact z
theorem Wd_putR {H H1 : Heap} {ci k i b col : Nat} {v : Option Nat} {r : vw_C} (hap : K.apart) (hw : Wd K V I P H) (hv : V.1 ci i) (hr : classes[ci]? = some r) (hk : k < r.2.2) (hc : cinf ci k = (true, b, col))
    (hnew : t_OB (K.ad ci i) (K.dC ci) r.2.2 (K.dI ci) H1 (updV (fun k => fval I P (cinf ci k) i) k (va_rf v))) (oq : ∀ q, q ≠ K.ad ci i → H1[q]? = H[q]?) (hz : H1.size = H.size) : Wd K V I (up P col i v) H1 := by
  refine ⟨fun ci' i' hv' => ?_, fun a ha => ?_, by rw [hz]; exact hw.2.2⟩
  · obtain ⟨p', r', hr', hob⟩ := hw.1 ci' i' hv'
    refine ⟨p', r', hr', ?_⟩
    by_cases hq : K.ad ci' i' = K.ad ci i
    · obtain ⟨e1, e2⟩ := hap.1 ci' i' ci i p' (hw.1 ci i hv).1 hq
      subst e1; subst e2
      cases Option.some.inj (hr.symm.trans hr')
      refine hnew.to (fun j hj => ?_)
      by_cases hjk : j = k
      · subst hjk
        simp [updV, fval, hc, up]
      · simp only [updV, if_neg hjk]
        exact (fval_up (b := b) (fun h1 h2 => absurd (tbl_rr hr hj hr hk h1 (by rw [hc]) (by rw [h2, hc])).2 hjk)).symm
    · refine (hob.kept (oq _ hq)).to (fun j hj => ?_)
      refine (fval_up (b := b) (fun h1 h2 => ?_)).symm
      intro hi
      have := (tbl_rr hr' hj hr hk h1 (by rw [hc]) (by rw [h2, hc])).1
      subst this; subst hi
      exact hq rfl
  · obtain ⟨pa, z⟩ := hw.2.1 a ha
    refine ⟨pa, ?_⟩
    rw [acont_up (fun h0 => tbl_ra hr hk hc (hap.2.2.2.2.2 a pa) h0), oq _ (fun z9 => hap.2.2.1 ci i a (hw.1 ci i hv).1 pa z9.symm)]
    exact z
/-- .. that may be written -/
def FW (own : String) (idx ci k : Nat) : Prop := ∃ r : vw_C, classes[ci]? = some r ∧ k < r.2.2 ∧ (r.2.1 k).1 = r.1 ∧ Cond.fieldLink own idx r.1 (r.2.1 k).2.1 (r.2.1 k).2.2.1 ∈ WA ∧ (r.2.1 k).2.2.2 = false
/-- .. that a constructor of own may write -/
def FI (own : String) (idx ci k : Nat) : Prop := ∃ r : vw_C, classes[ci]? = some r ∧ k < r.2.2 ∧ (r.2.1 k).1 = r.1 ∧ Cond.fieldLink own idx r.1 (r.2.1 k).2.1 (r.2.1 k).2.2.1 ∈ WA ∧ (r.2.1 k).2.2.2 = true ∧ r.1 = own
theorem j_putV (h : OkX X cc own K) {idx ci k i : Nat} {v : Value} {I' : MI3} {P' : MP} (d : decode cc pc = .ok (.putfield idx, 3)) (w : FW own idx ci k) (hv : V.1 ci i) (hn : narrow (ftyp ci k) v = v) (hfit : fits (ftyp ci k) v = true)
    (hW : ∀ (H H1 : Heap) (r : vw_C), Wd K V I P H → classes[ci]? = some r → k < r.2.2 → t_OB (K.ad ci i) (K.dC ci) r.2.2 (K.dI ci) H1 (updV (fun k => fval I P (cinf ci k) i) k v) → (∀ q, q ≠ K.ad ci i → H1[q]? = H[q]?) → H1.size = H.size → Wd K V I' P' H1)
    (kk : J X K V I' P' cells slots (pc + 3) lv st) : J X K V I P cells slots pc lv (v :: .ref (K.ad ci i) :: st) := by
  intro H locs ls a b' e f g
  obtain ⟨r, hr, hk, hd0, hw, hfin⟩ := w
  obtain ⟨hpv, r', hr', cell, q1, q2, q3, q4⟩ := a.1 ci i hv
  cases Option.some.inj (hr.symm.trans hr')
  have hts := h.2.2.2.2.1
  have hK := h.2.2.2.2.2.1
  have hap := h.2.2.2.2.2.2.2
  have hsa := va_apart (own := own) hts (cls_in ci r hr) (ftyp ci) (cls_ty ci r hr) (cls_nm ci r hr) hK hr
  obtain ⟨hS, hfc, kC, hkC, hkind⟩ := hK.1 ci r hr
  obtain ⟨cf, kf, fi, fd, hi, hsl⟩ := hS k hk
  have hlay := hts _ (cls_in ci r hr _ (u_in_lay hk))
  unfold u_lay at hlay
  rw [if_neg (by rw [hfin]; decide)] at hlay
  have hst := (u_facts hfc hkC (u_lays hts (cls_in ci r hr) hk) hi).1
  have h6 := u_store hfc hkC hkind hlay hi (cls_ty ci r hr k hk) hn hfit
  refine W.putK h.1 h.2.1 (f := fd) ⟨h.2.2.2.1, hts _ hw, ⟨_, _, _, hd0 ▸ hi⟩, hst⟩ (by rw [q2]; exact h6) q1 q3 (by rw [hsl]; exact k2_hasslot (q4 k hk)) rfl rfl d fun H' e1 e2 e3 => ?_
  rw [hsl] at e1 ⊢
  have hba : K.base ≤ K.ad ci i := hap.2.2.2.1 ci i hpv
  refine kk H' _ ls (hW H H' r a hr hk ⟨_, e1, q2, q3, t_set q4 hsa hk v⟩ e3 e2) (by rw [e2]; exact b') (fun q hq => ?_) (t_lc f hba) g
  rw [e3 q (Nat.ne_of_lt (Nat.lt_of_lt_of_le hq hba))]
  exact e q hq
theorem j_put (h : OkX X cc own K) {idx ci k i b col : Nat} {v : Int32} (d : decode cc pc = .ok (.putfield idx, 3)) (w : FW own idx ci k) (hc : cinf ci k = (false, b, col)) (hty : ftyp ci k = .int) (hv : V.1 ci i) (kk : J X K V (bup I b col i v) P cells slots (pc + 3) lv st) : J X K V I P cells slots pc lv (.int v :: .ref (K.ad ci i) :: st) :=
  j_putV h d w hv (by rw [hty]; rfl) (by rw [hty]; rfl) (fun _ _ _ a hr hk hn oq hz => Wd_put h.2.2.2.2.2.2.2 a hv hr hk hc hn oq hz) kk
theorem z_nar {v : Int32} (h : v = 0 ∨ v = 1) : narrow .boolean (.int v) = .int v := by rcases h with rfl | rfl <;> rfl
theorem z_fit {v : Int32} (h : v = 0 ∨ v = 1) : fits .boolean (.int v) = true := by rcases h with rfl | rfl <;> rfl
theorem j_putZ (h : OkX X cc own K) {idx ci k i b col : Nat} {v : Int32} (d : decode cc pc = .ok (.putfield idx, 3)) (w : FW own idx ci k) (hc : cinf ci k = (false, b, col)) (hty : ftyp ci k = .boolean) (hv : V.1 ci i) (hz : v = 0 ∨ v = 1) (kk : J X K V (bup I b col i v) P cells slots (pc + 3) lv st) : J X K V I P cells slots pc lv (.int v :: .ref (K.ad ci i) :: st) :=
  j_putV h d w hv (by rw [hty]; exact z_nar hz) (by rw [hty]; exact z_fit hz) (fun _ _ _ a hr hk hn oq hz => Wd_put h.2.2.2.2.2.2.2 a hv hr hk hc hn oq hz) kk
theorem j_putR (h : OkX X cc own K) {idx ci k i b col q : Nat} (d : decode cc pc = .ok (.putfield idx, 3)) (w : FW own idx ci k) (hc : cinf ci k = (true, b, col)) (hty : narrow (ftyp ci k) (.ref q) = .ref q ∧ fits (ftyp ci k) (.ref q) = true) (hv : V.1 ci i) (kk : J X K V I (up P col i (some q)) cells slots (pc + 3) lv st) : J X K V I P cells slots pc lv (.ref q :: .ref (K.ad ci i) :: st) :=
  j_putV h d w hv hty.1 hty.2 (fun _ _ _ a hr hk hn oq hz => Wd_putR (v := some q) h.2.2.2.2.2.2.2 a hv hr hk hc hn oq hz) kk
end JF
