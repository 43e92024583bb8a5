/-! the system's objects: which there are, where they hang -/
def CS (K : Kx) (V : Vx) (P : MP) (n : Nat) : Prop :=
  ((2 ≤ n ∧ n ≤ 32) ∧ V.1 0 0 ∧ (∀ s, s < 2 → V.1 1 s) ∧ (∀ s a, s < 2 → a < n → V.1 2 (32 * s + a)) ∧ (∀ c, c < 16 → V.1 3 c) ∧ V.1 4 0 ∧ ∀ q, q < 601 → V.1 5 q) ∧
  ((∀ a, a < 6 → V.2.1 a) ∧ K.alen 0 = 2 ∧ K.alen 1 = 16 ∧ K.alen 2 = n ∧ K.alen 3 = n ∧ K.alen 4 = 300 ∧ K.alen 5 = 300) ∧
  (P 0 0 = some (K.aad 0) ∧ P 1 0 = some (K.aad 1) ∧ P 2 0 = some (K.ad 4 0) ∧ P 3 0 = some (K.ad 5 600) ∧ (∀ s, s < 2 → P 4 s = some (K.aad (2 + s))) ∧ (∀ s, s < 2 → P 10 s = some (K.ad 1 s)) ∧ (∀ c, c < 16 → P 11 c = some (K.ad 3 c)) ∧ ∀ s a, s < 2 → a < n → P (12 + s) a = some (K.ad 2 (32 * s + a)))
section CSS
variable {K : Kx} {V : Vx} {P : MP} {n : Nat}
theorem cs_n (c : CS K V P n) : n ≤ 32 := c.1.1.2
theorem cs_n31 (c : CS K V P n) : n < 2 ^ 31 := Nat.lt_of_le_of_lt c.1.1.2 (by decide)
theorem cs_sv (c : CS K V P n) {s : Nat} (h : s < 2) : V.1 1 s := c.1.2.2.1 s h
theorem cs_rv (c : CS K V P n) {s a : Nat} (h : s < 2) (ha : a < n) : V.1 2 (32 * s + a) := c.1.2.2.2.1 s a h ha
theorem cs_cv (c : CS K V P n) {a : Nat} (h : a < 16) : V.1 3 a := c.1.2.2.2.2.1 a h
theorem cs_nv (c : CS K V P n) : V.1 4 0 := c.1.2.2.2.2.2.1
theorem cs_mv (c : CS K V P n) {q : Nat} (h : q < 601) : V.1 5 q := c.1.2.2.2.2.2.2 q h
theorem cs_av (c : CS K V P n) {a : Nat} (h : a < 6) : V.2.1 a := c.2.1.1 a h
theorem cs_rl (c : CS K V P n) {s : Nat} (h : s < 2) : K.alen (2 + s) = n := by
  rcases (show s = 0 ∨ s = 1 by omega) with rfl | rfl
  · exact c.2.1.2.2.2.1
  · exact c.2.1.2.2.2.2.1
theorem cs_rp (c : CS K V P n) {s : Nat} (h : s < 2) : P 4 s = some (K.aad (2 + s)) := c.2.2.2.2.2.2.1 s h
theorem cs_rq (c : CS K V P n) {s a : Nat} (h : s < 2) (ha : a < n) : P (12 + s) a = some (K.ad 2 (32 * s + a)) := c.2.2.2.2.2.2.2.2.2 s a h ha
theorem ai_rec {s : Nat} (h : s < 2) : ainf (2 + s) = (2, 9, 12 + s) ∧ aty (2 + s) = 5 := by
  rcases (show s = 0 ∨ s = 1 by omega) with rfl | rfl <;> exact ⟨rfl, rfl⟩
end CSS
theorem nI_i (a : Nat) : nI a + Int32.ofInt 1 = nI (a + 1) := nI_1 a
theorem lvs0 {lv : List (Nat × Value)} : ∀ q ∈ ([] : List (Nat × Value)), getL lv q.1 = some q.2 := fun _ h => by cases h
theorem lvs {lv t : List (Nat × Value)} {k : Nat} {v : Value} (h : getL lv k = some v) (ht : ∀ q ∈ t, getL lv q.1 = some q.2) : ∀ q ∈ (k, v) :: t, getL lv q.1 = some q.2 := fun q hq => (List.mem_cons.mp hq).elim (fun e => by rw [e]; exact h) (ht q)
section JS
variable {X : Jx} {cc : ByteArray} {own : String} {K : Kx} {V : Vx} {I : MI3} {P : MP} {cells slots pc : Nat} {lv : List (Nat × Value)} {st : List Value} {n : Nat}
theorem j_recs (h : OkX X cc own K) (cs : CS K V P n) {s a : Nat} (hs : s < 2) (ha : a < n) (d : decode cc pc = .ok (.aaload, 1)) (kk : J X K V I P cells slots (pc + 1) lv (.ref (K.ad 2 (32 * s + a)) :: st)) : J X K V I P cells slots pc lv (.int (nI a) :: .ref (K.aad (2 + s)) :: st) :=
  j_aald (C := "LeasePair$LeaseRecord") h d (ai_rec hs).1 ⟨by rw [(ai_rec hs).2]; rfl, by rw [(ai_rec hs).2]; decide⟩ (cs_av cs (by omega)) rfl (by rw [cs_rl cs hs]; exact ha) (by rw [cs_rl cs hs]; exact cs_n31 cs) (cs_rq cs hs ha) kk
theorem j_recl (h : OkX X cc own K) (cs : CS K V P n) {s : Nat} (hs : s < 2) (d : decode cc pc = .ok (.arraylength, 1)) (kk : J X K V I P cells slots (pc + 1) lv (.int (nI n) :: st)) : J X K V I P cells slots pc lv (.ref (K.aad (2 + s)) :: st) :=
  j_alen h d (by rw [(ai_rec hs).2]; decide) (cs_av cs (by omega)) (by rw [cs_rl cs hs]; exact kk)
end JS
