/-! THE WALK'S JUDGEMENT -/
theorem fval_bup {I : MI3} {P : MP} {b col i i' : Nat} {v : Int32} {f : Bool × Nat × Nat} (h : f = (false, b, col) → i' ≠ i) : fval (bup I b col i v) P f i' = fval I P f i' := by
  obtain ⟨t, b', c'⟩ := f
  cases t with
  | true => rfl
  | false =>
    show Value.int (bup I b col i v b' c' i') = Value.int (I b' c' i')
    by_cases hb : b' = b
    · by_cases hc : c' = col
      · subst hb; subst hc
        have := h rfl
        simp [bup, up, this]
      · simp [bup, up, hb, hc]
    · simp [bup, hb]
theorem acont_bup {I : MI3} {P : MP} {b col i : Nat} {v : Int32} {f : Nat × Nat × Nat} (h : f ≠ (0, b, col)) : acont (bup I b col i v) P f = acont I P f := by
  obtain ⟨t, b', c'⟩ := f
  match t, h with
  | 0, h =>
    show Sum.inl (bup I b col i v b' c') = Sum.inl (I b' c')
    congr 1
    funext j
    by_cases hb : b' = b
    · by_cases hc : c' = col
      · subst hb; subst hc
        exact absurd rfl h
      · simp [bup, up, hb, hc]
    · simp [bup, hb]
  | 1, _ => rfl
  | n + 2, _ => rfl
theorem fval_up {I : MI3} {P : MP} {b col i i' : Nat} {v : Option Nat} {f : Bool × Nat × Nat} (h : f.1 = true → f.2.2 = col → i' ≠ i) : fval I (up P col i v) f i' = fval I P f i' := by
  obtain ⟨t, b', c'⟩ := f
  cases t with
  | false => rfl
  | true =>
    show va_rf (up P col i v c' i') = va_rf (P c' i')
    by_cases hc : c' = col
    · subst hc
      have := h rfl rfl
      simp [up, this]
    · simp [up, hc]
theorem acont_up {I : MI3} {P : MP} {col i : Nat} {v : Option Nat} {f : Nat × Nat × Nat} (h : f.1 ≠ 0 → f.2.2 ≠ col) : acont I (up P col i v) f = acont I P f := by
  obtain ⟨t, b', c'⟩ := f
  match t, h with
  | 0, _ => rfl
  | 1, h =>
    have hc : c' ≠ col := h (by simp)
    show Sum.inr (Sum.inl _) = Sum.inr (Sum.inl _)
    congr 2
    funext j
    simp [up, hc]
  | n + 2, h =>
    have hc : c' ≠ col := h (by simp)
    show Sum.inr (Sum.inr (Sum.inr (Sum.inr (up P col i v c')))) = Sum.inr (Sum.inr (Sum.inr (Sum.inr (P c'))))
    congr 4
    funext j
    simp [up, hc]
/-- a method's frame: the machine, the method, where it goes; nL: how many locals -/
abbrev Jx : Type := Program × Launch × Env × Room × State × MethodId × Array Value × List Frame × Method × Code × (State → Prop) × Nat
abbrev Jx.p (X : Jx) : Program := X.1
abbrev Jx.l (X : Jx) : Launch := X.2.1
abbrev Jx.e (X : Jx) : Env := X.2.2.1
abbrev Jx.R (X : Jx) : Room := X.2.2.2.1
abbrev Jx.s (X : Jx) : State := X.2.2.2.2.1
abbrev Jx.m (X : Jx) : MethodId := X.2.2.2.2.2.1
abbrev Jx.args (X : Jx) : Array Value := X.2.2.2.2.2.2.1
abbrev Jx.below (X : Jx) : List Frame := X.2.2.2.2.2.2.2.1
abbrev Jx.meth (X : Jx) : Method := X.2.2.2.2.2.2.2.2.1
abbrev Jx.c (X : Jx) : Code := X.2.2.2.2.2.2.2.2.2.1
abbrev Jx.Q (X : Jx) : State → Prop := X.2.2.2.2.2.2.2.2.2.2.1
abbrev Jx.nL (X : Jx) : Nat := X.2.2.2.2.2.2.2.2.2.2.2
def JW (X : Jx) (H : Heap) (locs : List Loc) (cells slots : Nat) (g : JFrame) : Prop := W X.p X.l X.e X.R X.s X.m X.args X.below X.meth X.c H locs cells slots X.Q g
/-- the locals: first match counts -/
def getL : List (Nat × Value) → Nat → Option Value
  | [], _ => none
  | q :: t, k => if q.1 = k then some q.2 else getL t k
def clL : List (Nat × Value) → List (Nat × Value)
  | [] => []
  | q :: t => q :: (clL t).filter (fun z => !(z.1 == q.1))
theorem clL_get : ∀ {lv : List (Nat × Value)} {k : Nat} {v : Value}, getL lv k = some v → (k, v) ∈ clL lv
  | [], k, v, h => by simp [getL] at h
  | q :: t, k, v, h => by
    unfold getL at h
    unfold clL
    by_cases hq : q.1 = k
    · rw [if_pos hq] at h
      cases h
      subst hq
      exact List.mem_cons_self
    · rw [if_neg hq] at h
      refine List.mem_cons_of_mem _ (List.mem_filter.mpr ⟨clL_get h, ?_⟩)
      simp
      exact fun z => hq z.symm
theorem clL_sub : ∀ {lv : List (Nat × Value)} {q : Nat × Value}, q ∈ clL lv → getL lv q.1 = some q.2
  | [], q, h => by simp [clL] at h
  | z :: t, q, h => by
    unfold clL at h
    unfold getL
    rcases List.mem_cons.mp h with rfl | h
    · rw [if_pos rfl]
    · obtain ⟨h1, h2⟩ := List.mem_filter.mp h
      have h3 : ¬ q.1 = z.1 := by simpa using h2
      rw [if_neg (fun e => h3 e.symm)]
      exact clL_sub h1
def hasL (ls : Array Slot) (nL : Nat) (lv : List (Nat × Value)) : Prop := lv_has ls nL (clL lv) ∧ ∀ q ∈ lv, q.2.category = 1
theorem clL_mem : ∀ {lv : List (Nat × Value)} {q : Nat × Value}, q ∈ clL lv → q ∈ lv
  | [], q, h => by simp [clL] at h
  | z :: t, q, h => by
    unfold clL at h
    rcases List.mem_cons.mp h with rfl | h
    · exact List.mem_cons_self
    · exact List.mem_cons_of_mem _ (clL_mem (List.mem_filter.mp h).1)
theorem hasL_at {ls : Array Slot} {nL : Nat} {lv : List (Nat × Value)} (h : hasL ls nL lv) {k : Nat} {v : Value} (hk : getL lv k = some v) : ls[k]? = some (.val v) := h.1.2.2 (k, v) (clL_get hk)
/-- what a store leaves, as this file's list -/
theorem hasL_store {ls : Array Slot} {nL : Nat} {lv : List (Nat × Value)} {i : Nat} {v : Value} (hc : v.category = 1) (h0 : ∀ q ∈ lv, q.2.category = 1) (h : lv_has ls nL ((i, v) :: (clL lv).filter (fun q => !(q.1 == i) && !(q.1 + 1 == i && q.2.category == 2)))) : hasL ls nL ((i, v) :: lv) := by
  refine ⟨⟨h.1, h.2.1, fun q hq => ?_⟩, fun q hq => ?_⟩
  · unfold clL at hq
    rcases List.mem_cons.mp hq with rfl | hq
    · exact h.2.2 _ List.mem_cons_self
    · obtain ⟨h1, h2⟩ := List.mem_filter.mp hq
      refine h.2.2 q (List.mem_cons_of_mem _ (List.mem_filter.mpr ⟨h1, ?_⟩))
      have h4 : q.2.category = 1 := h0 q (clL_mem h1)
      have h3 : (!(q.1 == i)) = true := h2
      rw [h3, h4]
      simp
  · rcases List.mem_cons.mp hq with rfl | hq
    · exact hc
    · exact h0 q hq
/-- fewer names -/
theorem hasL_sub {ls : Array Slot} {nL : Nat} {lv lv' : List (Nat × Value)} (h : hasL ls nL lv) (hs : ∀ q ∈ lv', getL lv q.1 = some q.2) : hasL ls nL lv' := by
  refine ⟨⟨h.1.1, h.1.2.1, fun q hq => h.1.2.2 q ?_⟩, fun q hq => ?_⟩
  · exact clL_get (hs q (clL_mem hq))
  · exact h.2 q (clL_mem (clL_get (hs q hq)))
def J (X : Jx) (K : Kx) (V : Vx) (I : MI3) (P : MP) (cells slots pc : Nat) (lv : List (Nat × Value)) (st : List Value) : Prop :=
  ∀ (H : Heap) (locs : List Loc) (ls : Array Slot), Wd K V I P H → X.s.heap.size ≤ H.size → (∀ q, q < K.base → H[q]? = X.s.heap[q]?) → (∀ z ∈ locs, K.base ≤ z.base) → hasL ls X.nL lv → JW X H locs cells slots (F0 X.m pc ls st)
/-- array kinds by number -/
def tysK (K : Kx) : List (ClassId × FieldType) := (List.range 7).map (fun t => (K.dA t, atyT t))
/-- what the method's code and tables give -/
def OkX (X : Jx) (cc : ByteArray) (own : String) (K : Kx) : Prop :=
  X.p.tables.exec = Jvm.exec ∧ X.c.code = cc ∧ X.c.maxLocals = X.nL ∧ X.s.vm.findClass own = some X.m.cls ∧ (∀ w ∈ WA, w.before X.args X.s = true) ∧ va_K (K.dC, K.dI) classes (tysK K) X.s ∧ BW K X.s ∧ K.apart
section JR
variable {X : Jx} {cc : ByteArray} {own : String} {K : Kx} {V : Vx} {I : MI3} {P : MP} {cells slots pc : Nat} {lv : List (Nat × Value)} {st : List Value}
theorem j_iconst (h : OkX X cc own K) {n : Int} {v : Int32} (d : decode cc pc = .ok (.iconst n, 1)) (hv : Int32.ofInt n = v) (k : J X K V I P cells slots (pc + 1) lv (.int v :: st)) : J X K V I P cells slots pc lv st :=
  fun H locs ls a b e f g => lv_iconst h.1 h.2.1 d hv (k H locs ls a b e f g)
theorem j_bipush (h : OkX X cc own K) {n : Int} {v : Int32} (d : decode cc pc = .ok (.bipush n, 2)) (hv : (Int8.ofInt n).toInt32 = v) (k : J X K V I P cells slots (pc + 2) lv (.int v :: st)) : J X K V I P cells slots pc lv st :=
  fun H locs ls a b e f g => lv_bipush h.1 h.2.1 d hv (k H locs ls a b e f g)
theorem j_sipush (h : OkX X cc own K) {n : Int} {v : Int32} (d : decode cc pc = .ok (.sipush n, 3)) (hv : (Int16.ofInt n).toInt32 = v) (k : J X K V I P cells slots (pc + 3) lv (.int v :: st)) : J X K V I P cells slots pc lv st :=
  fun H locs ls a b e f g => lv_sipush h.1 h.2.1 d hv (k H locs ls a b e f g)
theorem j_ldc (h : OkX X cc own K) {idx : Nat} {v : Int32} (d : decode cc pc = .ok (.ldc idx, 2)) (w : Cond.constant own idx v ∈ WA) (k : J X K V I P cells slots (pc + 2) lv (.int v :: st)) : J X K V I P cells slots pc lv st :=
  fun H locs ls a b e f g => lv_ldc h.1 h.2.1 h.2.2.2.1 (h.2.2.2.2.1 _ w) d (k H locs ls a b e f g)
theorem j_iload_n (h : OkX X cc own K) {n : Fin 4} {x : Int32} (d : decode cc pc = .ok (.iload_n n, 1)) (hl : getL lv n.val = some (.int x)) (k : J X K V I P cells slots (pc + 1) lv (.int x :: st)) : J X K V I P cells slots pc lv st :=
  fun H locs ls a b e f g => lv_iload_n h.1 h.2.1 d rfl (hasL_at g hl) (k H locs ls a b e f g)
theorem j_iload (h : OkX X cc own K) {n : Nat} {x : Int32} (d : decode cc pc = .ok (.iload n, 2)) (hl : getL lv n = some (.int x)) (k : J X K V I P cells slots (pc + 2) lv (.int x :: st)) : J X K V I P cells slots pc lv st :=
  fun H locs ls a b e f g => lv_iload h.1 h.2.1 d (hasL_at g hl) (k H locs ls a b e f g)
theorem j_aload_n (h : OkX X cc own K) {n : Fin 4} {x : Nat} (d : decode cc pc = .ok (.aload_n n, 1)) (hl : getL lv n.val = some (.ref x)) (k : J X K V I P cells slots (pc + 1) lv (.ref x :: st)) : J X K V I P cells slots pc lv st :=
  fun H locs ls a b e f g => lv_aload_n h.1 h.2.1 d rfl (hasL_at g hl) (k H locs ls a b e f g)
theorem j_aload (h : OkX X cc own K) {n : Nat} {x : Nat} (d : decode cc pc = .ok (.aload n, 2)) (hl : getL lv n = some (.ref x)) (k : J X K V I P cells slots (pc + 2) lv (.ref x :: st)) : J X K V I P cells slots pc lv st :=
  fun H locs ls a b e f g => lv_aload h.1 h.2.1 d (hasL_at g hl) (k H locs ls a b e f g)
theorem j_istore_n (h : OkX X cc own K) {n : Fin 4} {x : Int32} (d : decode cc pc = .ok (.istore_n n, 1)) (hn : n.val < X.nL) (k : J X K V I P cells slots (pc + 1) ((n.val, .int x) :: lv) st) : J X K V I P cells slots pc lv (.int x :: st) :=
  fun H locs ls a b e f g => lv_istore_n h.1 h.2.1 d rfl g.1 hn rfl (fun ls' h' => k H locs ls' a b e f (hasL_store rfl g.2 h'))
theorem j_istore (h : OkX X cc own K) {n : Nat} {x : Int32} (d : decode cc pc = .ok (.istore n, 2)) (hn : n < X.nL) (k : J X K V I P cells slots (pc + 2) ((n, .int x) :: lv) st) : J X K V I P cells slots pc lv (.int x :: st) :=
  fun H locs ls a b e f g => lv_istore h.1 h.2.1 d g.1 hn rfl (fun ls' h' => k H locs ls' a b e f (hasL_store rfl g.2 h'))
theorem j_astore_n (h : OkX X cc own K) {n : Fin 4} {x : Nat} (d : decode cc pc = .ok (.astore_n n, 1)) (hn : n.val < X.nL) (k : J X K V I P cells slots (pc + 1) ((n.val, .ref x) :: lv) st) : J X K V I P cells slots pc lv (.ref x :: st) :=
  fun H locs ls a b e f g => lv_astore_n h.1 h.2.1 d rfl g.1 hn rfl (fun ls' h' => k H locs ls' a b e f (hasL_store rfl g.2 h'))
theorem j_astore (h : OkX X cc own K) {n : Nat} {x : Nat} (d : decode cc pc = .ok (.astore n, 2)) (hn : n < X.nL) (k : J X K V I P cells slots (pc + 2) ((n, .ref x) :: lv) st) : J X K V I P cells slots pc lv (.ref x :: st) :=
  fun H locs ls a b e f g => lv_astore h.1 h.2.1 d g.1 hn rfl (fun ls' h' => k H locs ls' a b e f (hasL_store rfl g.2 h'))
theorem j_iinc (h : OkX X cc own K) {i : Nat} {n : Int} {x v : Int32} (d : decode cc pc = .ok (.iinc i n, 3)) (hl : getL lv i = some (.int x)) (hv : x + Int32.ofInt n = v) (hn : i < X.nL) (k : J X K V I P cells slots (pc + 3) ((i, .int v) :: lv) st) : J X K V I P cells slots pc lv st := by
  intro H locs ls a b e f g
  obtain ⟨q, hq⟩ := List.getElem?_of_mem (clL_get hl)
  exact lv_iinc h.1 h.2.1 d g.1 hq hv hn rfl (fun ls' h' => k H locs ls' a b e f (hasL_store rfl g.2 h'))
theorem j_iadd (h : OkX X cc own K) {x y : Int32} (d : decode cc pc = .ok (.iadd, 1)) (k : J X K V I P cells slots (pc + 1) lv (.int (x + y) :: st)) : J X K V I P cells slots pc lv (.int y :: .int x :: st) :=
  fun H locs ls a b e f g => lv_iadd h.1 h.2.1 d (k H locs ls a b e f g)
theorem j_isub (h : OkX X cc own K) {x y : Int32} (d : decode cc pc = .ok (.isub, 1)) (k : J X K V I P cells slots (pc + 1) lv (.int (x - y) :: st)) : J X K V I P cells slots pc lv (.int y :: .int x :: st) :=
  fun H locs ls a b e f g => lv_isub h.1 h.2.1 d (k H locs ls a b e f g)
theorem j_imul (h : OkX X cc own K) {x y : Int32} (d : decode cc pc = .ok (.imul, 1)) (k : J X K V I P cells slots (pc + 1) lv (.int (x * y) :: st)) : J X K V I P cells slots pc lv (.int y :: .int x :: st) :=
  fun H locs ls a b e f g => lv_imul h.1 h.2.1 d (k H locs ls a b e f g)
theorem j_iand (h : OkX X cc own K) {x y : Int32} (d : decode cc pc = .ok (.iand, 1)) (k : J X K V I P cells slots (pc + 1) lv (.int (x &&& y) :: st)) : J X K V I P cells slots pc lv (.int y :: .int x :: st) :=
  fun H locs ls a b e f g => lv_iand h.1 h.2.1 d (k H locs ls a b e f g)
theorem j_irem (h : OkX X cc own K) {x y : Int32} (d : decode cc pc = .ok (.irem, 1)) (hne : ¬ y = 0) (k : J X K V I P cells slots (pc + 1) lv (.int (x - (x / y) * y) :: st)) : J X K V I P cells slots pc lv (.int y :: .int x :: st) :=
  fun H locs ls a b e f g => lv_irem h.1 h.2.1 d hne (k H locs ls a b e f g)
theorem j_i2l (h : OkX X cc own K) {x : Int32} (d : decode cc pc = .ok (.i2l, 1)) (k : J X K V I P cells slots (pc + 1) lv (.long x.toInt64 :: st)) : J X K V I P cells slots pc lv (.int x :: st) :=
  fun H locs ls a b e f g => lv_i2l h.1 h.2.1 d rfl (k H locs ls a b e f g)
theorem j_lconst (h : OkX X cc own K) {n : Fin 2} {v : Int64} (d : decode cc pc = .ok (.lconst n, 1)) (hv : Int64.ofNat (n : Nat) = v) (k : J X K V I P cells slots (pc + 1) lv (.long v :: st)) : J X K V I P cells slots pc lv st :=
  fun H locs ls a b e f g => lv_lconst h.1 h.2.1 d hv (k H locs ls a b e f g)
theorem j_dup (h : OkX X cc own K) {va : Value} (d : decode cc pc = .ok (.dup, 1)) (hva : va.category = 1) (k : J X K V I P cells slots (pc + 1) lv (va :: va :: st)) : J X K V I P cells slots pc lv (va :: st) :=
  fun H locs ls a b e f g => lv_dup h.1 h.2.1 d hva (k H locs ls a b e f g)
theorem j_pop (h : OkX X cc own K) {va : Value} (d : decode cc pc = .ok (.pop, 1)) (hva : va.category = 1) (k : J X K V I P cells slots (pc + 1) lv st) : J X K V I P cells slots pc lv (va :: st) :=
  fun H locs ls a b e f g => lv_pop h.1 h.2.1 d hva (k H locs ls a b e f g)
theorem j_dup_x1 (h : OkX X cc own K) {va vb : Value} (d : decode cc pc = .ok (.dup_x1, 1)) (hva : va.category = 1) (hvb : vb.category = 1) (k : J X K V I P cells slots (pc + 1) lv (va :: vb :: va :: st)) : J X K V I P cells slots pc lv (va :: vb :: st) :=
  fun H locs ls a b e f g => lv_dup_x1 h.1 h.2.1 d hva hvb (k H locs ls a b e f g)
theorem j_dup2 (h : OkX X cc own K) {va vb : Value} (d : decode cc pc = .ok (.dup2, 1)) (hva : va.category = 1) (hvb : vb.category = 1) (k : J X K V I P cells slots (pc + 1) lv (va :: vb :: va :: vb :: st)) : J X K V I P cells slots pc lv (va :: vb :: st) :=
  fun H locs ls a b e f g => lv_dup2_11 h.1 h.2.1 d hva hvb (k H locs ls a b e f g)
theorem j_goto (h : OkX X cc own K) {off : Int} {tgt : Nat} (d : decode cc pc = .ok (.goto off, 3)) (ht : (pc : Int) + off = (tgt : Int)) (k : J X K V I P cells slots tgt lv st) : J X K V I P cells slots pc lv st :=
  fun H locs ls a b e f g => lv_goto h.1 h.2.1 d ht (k H locs ls a b e f g)
end JR
