/-! THE STORE: ints in banks (bank, column, index), references (column, index). K: what never changes; V: what has been made so far. -/
abbrev MI : Type := Nat → Nat → Int32
abbrev MI3 : Type := Nat → Nat → Nat → Int32
abbrev MP : Type := Nat → Nat → Option Nat
def up {α : Type} (f : Nat → Nat → α) (c i : Nat) (v : α) : Nat → Nat → α := fun c' i' => if c' = c ∧ i' = i then v else f c' i'
theorem up_s {α : Type} (f : Nat → Nat → α) (c i : Nat) (v : α) : up f c i v c i = v := by simp [up]
theorem up_c {α : Type} (f : Nat → Nat → α) {c i c' i' : Nat} (v : α) (h : c' ≠ c) : up f c i v c' i' = f c' i' := by simp [up, h]
theorem up_i {α : Type} (f : Nat → Nat → α) {c i c' i' : Nat} (v : α) (h : i' ≠ i) : up f c i v c' i' = f c' i' := by simp [up, h]
def bup (I : MI3) (b c i : Nat) (v : Int32) : MI3 := fun b' => if b' = b then up (I b') c i v else I b'
def bk4 (A B C D : MI) : MI3 := fun b => match b with
  | 0 => A
  | 1 => B
  | 2 => C
  | 3 => D
  | _ => fun _ _ => 0
theorem bup_0 (A B C D : MI) (c i : Nat) (v : Int32) : bup (bk4 A B C D) 0 c i v = bk4 (up A c i v) B C D := by
  funext b
  match b with
  | 0 => rfl
  | 1 => rfl
  | 2 => rfl
  | 3 => rfl
  | n + 4 => rfl
theorem bup_1 (A B C D : MI) (c i : Nat) (v : Int32) : bup (bk4 A B C D) 1 c i v = bk4 A (up B c i v) C D := by
  funext b
  match b with
  | 0 => rfl
  | 1 => rfl
  | 2 => rfl
  | 3 => rfl
  | n + 4 => rfl
theorem bup_2 (A B C D : MI) (c i : Nat) (v : Int32) : bup (bk4 A B C D) 2 c i v = bk4 A B (up C c i v) D := by
  funext b
  match b with
  | 0 => rfl
  | 1 => rfl
  | 2 => rfl
  | 3 => rfl
  | n + 4 => rfl
theorem bup_3 (A B C D : MI) (c i : Nat) (v : Int32) : bup (bk4 A B C D) 3 c i v = bk4 A B C (up D c i v) := by
  funext b
  match b with
  | 0 => rfl
  | 1 => rfl
  | 2 => rfl
  | 3 => rfl
  | n + 4 => rfl
/-- (kind numbers to ids, their slots, array kinds to ids), base, addresses of objects and arrays, lengths, what there will be -/
abbrev Kx : Type := (Nat → ClassId) × (Nat → Nat → Nat) × (Nat → ClassId) × Nat × (Nat → Nat → Nat) × (Nat → Nat) × (Nat → Nat) × (Nat → Nat → Prop) × (Nat → Prop)
abbrev Kx.dC (K : Kx) : Nat → ClassId := K.1
abbrev Kx.dI (K : Kx) : Nat → Nat → Nat := K.2.1
abbrev Kx.dA (K : Kx) : Nat → ClassId := K.2.2.1
abbrev Kx.base (K : Kx) : Nat := K.2.2.2.1
abbrev Kx.ad (K : Kx) : Nat → Nat → Nat := K.2.2.2.2.1
abbrev Kx.aad (K : Kx) : Nat → Nat := K.2.2.2.2.2.1
abbrev Kx.alen (K : Kx) : Nat → Nat := K.2.2.2.2.2.2.1
abbrev Kx.pv (K : Kx) : Nat → Nat → Prop := K.2.2.2.2.2.2.2.1
abbrev Kx.pa (K : Kx) : Nat → Prop := K.2.2.2.2.2.2.2.2
/-- objects made, arrays made, what the heap's size is -/
abbrev Vx : Type := (Nat → Nat → Prop) × (Nat → Prop) × (Nat → Prop)
def Kx.full (K : Kx) : Vx := (K.pv, K.pa, fun _ => True)
/-- a field's value: by (is it a reference, bank, column) -/
def fval (I : MI3) (P : MP) (f : Bool × Nat × Nat) (i : Nat) : Value := match f with
  | (true, _, col) => va_rf (P col i)
  | (false, b, col) => .int (I b col i)
/-- an array's contents: by (what it holds, bank, column): 0 ints, 1 longs, else references -/
def acont (I : MI3) (P : MP) (f : Nat × Nat × Nat) : (Nat → Int32) ⊕ (Nat → Int64) ⊕ (Nat → UInt32) ⊕ (Nat → UInt64) ⊕ (Nat → Option Nat) := match f with
  | (0, b, col) => .inl (I b col)
  | (1, _, col) => .inr (.inl (fun j => Int64.ofNat ((P col j).getD 0)))
  | (_, _, col) => .inr (.inr (.inr (.inr (P col))))
/-- the world: what has been made holds the store -/
def Wd (K : Kx) (V : Vx) (I : MI3) (P : MP) (H : Heap) : Prop :=
  (∀ ci i, V.1 ci i → K.pv ci i ∧ ∃ r : vw_C, classes[ci]? = some r ∧ t_OB (K.ad ci i) (K.dC ci) r.2.2 (K.dI ci) H (fun k => fval I P (cinf ci k) i)) ∧
  (∀ a, V.2.1 a → K.pa a ∧ H[K.aad a]? = some (vp_cell (K.dA (aty a)) (K.alen a, acont I P (ainf a)))) ∧ V.2.2 H.size
/-- the addresses are apart -/
def Kx.apart (K : Kx) : Prop := (∀ c i c' i', K.pv c i → K.pv c' i' → K.ad c i = K.ad c' i' → c = c' ∧ i = i') ∧ (∀ a a', K.pa a → K.pa a' → K.aad a = K.aad a' → a = a') ∧
  (∀ c i a, K.pv c i → K.pa a → K.ad c i ≠ K.aad a) ∧ (∀ c i, K.pv c i → K.base ≤ K.ad c i) ∧ (∀ a, K.pa a → K.base ≤ K.aad a) ∧ ∀ a, K.pa a → a < 60
