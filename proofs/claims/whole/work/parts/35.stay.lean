/-! what stays: booleans, the fixed columns, messages that can be delivered -/
def Zc (A : MI) : Prop := ∀ i, (A 14 i = 0 ∨ A 14 i = 1) ∧ (A 17 i = 0 ∨ A 17 i = 1) ∧ (A 21 i = 0 ∨ A 21 i = 1) ∧ (A 22 i = 0 ∨ A 22 i = 1)
/-- from A to A' booleans stay booleans, and the fixed columns stay -/
def ZK (A A' : MI) : Prop := (Zc A → Zc A') ∧ ∀ col i, 40 ≤ col → col ≠ 41 → A' col i = A col i
theorem ZK.refl (A : MI) : ZK A A := ⟨id, fun _ _ _ _ => rfl⟩
theorem ZK_up {A0 A : MI} {col i : Nat} {v : Int32} (h : ZK A0 A) (h1 : col < 40 ∨ col = 41) (h2 : (col ≠ 14 ∧ col ≠ 17 ∧ col ≠ 21 ∧ col ≠ 22) ∨ v = 0 ∨ v = 1) : ZK A0 (up A col i v) := by
  refine ⟨fun z j => ?_, fun c j h3 h4 => ?_⟩
  · have hz := h.1 z j
    unfold up
    refine ⟨?_, ?_, ?_, ?_⟩
    · split
      · exact h2.elim (fun h => absurd (by omega) h.1) id
      · exact hz.1
    · split
      · exact h2.elim (fun h => absurd (by omega) h.2.1) id
      · exact hz.2.1
    · split
      · exact h2.elim (fun h => absurd (by omega) h.2.2.1) id
      · exact hz.2.2.1
    · split
      · exact h2.elim (fun h => absurd (by omega) h.2.2.2) id
      · exact hz.2.2.2
  · rw [up_c _ _ (by omega)]
    exact h.2 c j h3 h4
theorem ZK_wr {A0 A : MI} {s : Nat} (h : ZK A0 A) : ZK A0 (wr A s) := by
  unfold wr
  try dsimp only
  repeat' split
  all_goals (try dsimp only)
  all_goals (repeat (first | (with_reducible exact h) | refine ZK_up ?_ (by decide) (by first | exact Or.inl (by decide) | exact Or.inr (Or.inl rfl) | exact Or.inr (Or.inr rfl) | exact Or.inr (b01_z _))))
theorem ZK_chg {A0 A : MI} {r : Nat} (h : ZK A0 A) : ZK A0 (chg A r) := by
  unfold chg
  try dsimp only
  repeat' split
  all_goals (try dsimp only)
  all_goals (repeat (first | (with_reducible exact h) | (with_reducible refine ZK_wr ?_) | refine ZK_up ?_ (by decide) (by first | exact Or.inl (by decide) | exact Or.inr (Or.inl rfl) | exact Or.inr (Or.inr rfl) | exact Or.inr (b01_z _))))
theorem ZK_chgTo {A0 A : MI} {r : Nat} {k : Int32} (h : ZK A0 A) : ZK A0 (chgTo A r k) := by
  unfold chgTo
  try dsimp only
  repeat' split
  all_goals (try dsimp only)
  all_goals (repeat (first | (with_reducible exact h) | (with_reducible refine ZK_wr ?_) | (with_reducible refine ZK_chg ?_) | refine ZK_up ?_ (by decide) (by first | exact Or.inl (by decide) | exact Or.inr (Or.inl rfl) | exact Or.inr (Or.inr rfl) | exact Or.inr (b01_z _))))
theorem ZK_bnd {A0 A : MI} {r : Nat} {c e q sn : Int32} (h : ZK A0 A) : ZK A0 (bnd A r c e q sn) := by
  unfold bnd
  try dsimp only
  repeat' split
  all_goals (try dsimp only)
  all_goals (repeat (first | (with_reducible exact h) | (with_reducible refine ZK_wr ?_) | (with_reducible refine ZK_chg ?_) | (with_reducible refine ZK_chgTo ?_) | refine ZK_up ?_ (by decide) (by first | exact Or.inl (by decide) | exact Or.inr (Or.inl rfl) | exact Or.inr (Or.inr rfl) | exact Or.inr (b01_z _))))
theorem ZK_settle {A0 A : MI} {r : Nat} {k : Int32} (h : ZK A0 A) : ZK A0 (settle A r k) := by
  unfold settle
  try dsimp only
  repeat' split
  all_goals (try dsimp only)
  all_goals (repeat (first | (with_reducible exact h) | (with_reducible refine ZK_wr ?_) | (with_reducible refine ZK_chg ?_) | (with_reducible refine ZK_chgTo ?_) | (with_reducible refine ZK_bnd ?_) | refine ZK_up ?_ (by decide) (by first | exact Or.inl (by decide) | exact Or.inr (Or.inl rfl) | exact Or.inr (Or.inr rfl) | exact Or.inr (b01_z _))))
theorem ZK_tkBound {A0 A : MI} {r : Nat} {c e rq : Int32} (h : ZK A0 A) : ZK A0 (tkBound A r c e rq).2 := by
  unfold tkBound
  try dsimp only
  repeat' split
  all_goals (try dsimp only)
  all_goals (repeat (first | (with_reducible exact h) | (with_reducible refine ZK_wr ?_) | (with_reducible refine ZK_chg ?_) | (with_reducible refine ZK_chgTo ?_) | (with_reducible refine ZK_bnd ?_) | (with_reducible refine ZK_settle ?_) | refine ZK_up ?_ (by decide) (by first | exact Or.inl (by decide) | exact Or.inr (Or.inl rfl) | exact Or.inr (Or.inr rfl) | exact Or.inr (b01_z _))))
theorem ZK_tkEnding {A0 A : MI} {r : Nat} {c e t rel rq y : Int32} (h : ZK A0 A) : ZK A0 (tkEnding A r c e t rel rq y).2 := by
  unfold tkEnding
  try dsimp only
  repeat' split
  all_goals (try dsimp only)
  all_goals (repeat (first | (with_reducible exact h) | (with_reducible refine ZK_wr ?_) | (with_reducible refine ZK_chg ?_) | (with_reducible refine ZK_chgTo ?_) | (with_reducible refine ZK_bnd ?_) | (with_reducible refine ZK_settle ?_) | (with_reducible refine ZK_tkBound ?_) | refine ZK_up ?_ (by decide) (by first | exact Or.inl (by decide) | exact Or.inr (Or.inl rfl) | exact Or.inr (Or.inr rfl) | exact Or.inr (b01_z _))))
theorem ZK_tkGiven {A0 A : MI} {r : Nat} (h : ZK A0 A) : ZK A0 (tkGiven A r).2 := by
  unfold tkGiven
  try dsimp only
  repeat' split
  all_goals (try dsimp only)
  all_goals (repeat (first | (with_reducible exact h) | (with_reducible refine ZK_wr ?_) | (with_reducible refine ZK_chg ?_) | (with_reducible refine ZK_chgTo ?_) | (with_reducible refine ZK_bnd ?_) | (with_reducible refine ZK_settle ?_) | (with_reducible refine ZK_tkBound ?_) | (with_reducible refine ZK_tkEnding ?_) | refine ZK_up ?_ (by decide) (by first | exact Or.inl (by decide) | exact Or.inr (Or.inl rfl) | exact Or.inr (Or.inr rfl) | exact Or.inr (b01_z _))))
theorem ZK_lnKnown {A0 A : MI} {r : Nat} {num amt : Int32} (h : ZK A0 A) : ZK A0 (lnKnown A r num amt).2 := by
  unfold lnKnown
  try dsimp only
  repeat' split
  all_goals (try dsimp only)
  all_goals (repeat (first | (with_reducible exact h) | (with_reducible refine ZK_wr ?_) | (with_reducible refine ZK_chg ?_) | (with_reducible refine ZK_chgTo ?_) | (with_reducible refine ZK_bnd ?_) | (with_reducible refine ZK_settle ?_) | (with_reducible refine ZK_tkBound ?_) | (with_reducible refine ZK_tkEnding ?_) | (with_reducible refine ZK_tkGiven ?_) | refine ZK_up ?_ (by decide) (by first | exact Or.inl (by decide) | exact Or.inr (Or.inl rfl) | exact Or.inr (Or.inr rfl) | exact Or.inr (b01_z _))))
theorem ZK_lnAck {A0 A : MI} {r : Nat} {num ov : Int32} (h : ZK A0 A) : ZK A0 (lnAck A r num ov).2 := by
  unfold lnAck
  try dsimp only
  repeat' split
  all_goals (try dsimp only)
  all_goals (repeat (first | (with_reducible exact h) | (with_reducible refine ZK_wr ?_) | (with_reducible refine ZK_chg ?_) | (with_reducible refine ZK_chgTo ?_) | (with_reducible refine ZK_bnd ?_) | (with_reducible refine ZK_settle ?_) | (with_reducible refine ZK_tkBound ?_) | (with_reducible refine ZK_tkEnding ?_) | (with_reducible refine ZK_tkGiven ?_) | (with_reducible refine ZK_lnKnown ?_) | refine ZK_up ?_ (by decide) (by first | exact Or.inl (by decide) | exact Or.inr (Or.inl rfl) | exact Or.inr (Or.inr rfl) | exact Or.inr (b01_z _))))
theorem ZK_gvWay {A0 A : MI} {r s : Nat} {k vd sn : Int32} (h : ZK A0 A) : ZK A0 (gvWay A r s k vd sn) := by
  unfold gvWay
  try dsimp only
  repeat' split
  all_goals (try dsimp only)
  all_goals (repeat (first | (with_reducible exact h) | (with_reducible refine ZK_wr ?_) | (with_reducible refine ZK_chg ?_) | (with_reducible refine ZK_chgTo ?_) | (with_reducible refine ZK_bnd ?_) | (with_reducible refine ZK_settle ?_) | (with_reducible refine ZK_tkBound ?_) | (with_reducible refine ZK_tkEnding ?_) | (with_reducible refine ZK_tkGiven ?_) | (with_reducible refine ZK_lnKnown ?_) | (with_reducible refine ZK_lnAck ?_) | refine ZK_up ?_ (by decide) (by first | exact Or.inl (by decide) | exact Or.inr (Or.inl rfl) | exact Or.inr (Or.inr rfl) | exact Or.inr (b01_z _))))
theorem ZK_tkIn {A0 A : MI} {r s : Nat} {num t k c e rq rel vd sn : Int32} (h : ZK A0 A) : ZK A0 (tkIn A r s num t k c e rq rel vd sn).2 := by
  unfold tkIn
  try dsimp only
  repeat' split
  all_goals (try dsimp only)
  all_goals (repeat (first | (with_reducible exact h) | (with_reducible refine ZK_wr ?_) | (with_reducible refine ZK_chg ?_) | (with_reducible refine ZK_chgTo ?_) | (with_reducible refine ZK_bnd ?_) | (with_reducible refine ZK_settle ?_) | (with_reducible refine ZK_tkBound ?_) | (with_reducible refine ZK_tkEnding ?_) | (with_reducible refine ZK_tkGiven ?_) | (with_reducible refine ZK_lnKnown ?_) | (with_reducible refine ZK_lnAck ?_) | (with_reducible refine ZK_gvWay ?_) | refine ZK_up ?_ (by decide) (by first | exact Or.inl (by decide) | exact Or.inr (Or.inl rfl) | exact Or.inr (Or.inr rfl) | exact Or.inr (b01_z _))))
theorem ZK_hrAck {A0 A : MI} {r s : Nat} {num amt ep ov : Int32} (h : ZK A0 A) : ZK A0 (hrAck A r s num amt ep ov) := by
  unfold hrAck
  try dsimp only
  repeat' split
  all_goals (try dsimp only)
  all_goals (repeat (first | (with_reducible exact h) | (with_reducible refine ZK_wr ?_) | (with_reducible refine ZK_chg ?_) | (with_reducible refine ZK_chgTo ?_) | (with_reducible refine ZK_bnd ?_) | (with_reducible refine ZK_settle ?_) | (with_reducible refine ZK_tkBound ?_) | (with_reducible refine ZK_tkEnding ?_) | (with_reducible refine ZK_tkGiven ?_) | (with_reducible refine ZK_lnKnown ?_) | (with_reducible refine ZK_lnAck ?_) | (with_reducible refine ZK_gvWay ?_) | (with_reducible refine ZK_tkIn ?_) | refine ZK_up ?_ (by decide) (by first | exact Or.inl (by decide) | exact Or.inr (Or.inl rfl) | exact Or.inr (Or.inr rfl) | exact Or.inr (b01_z _))))
theorem ZK_hrRel {A0 A : MI} {r s : Nat} {c num : Int32} (h : ZK A0 A) : ZK A0 (hrRel A r s c num) := by
  unfold hrRel
  try dsimp only
  repeat' split
  all_goals (try dsimp only)
  all_goals (repeat (first | (with_reducible exact h) | (with_reducible refine ZK_wr ?_) | (with_reducible refine ZK_chg ?_) | (with_reducible refine ZK_chgTo ?_) | (with_reducible refine ZK_bnd ?_) | (with_reducible refine ZK_settle ?_) | (with_reducible refine ZK_tkBound ?_) | (with_reducible refine ZK_tkEnding ?_) | (with_reducible refine ZK_tkGiven ?_) | (with_reducible refine ZK_lnKnown ?_) | (with_reducible refine ZK_lnAck ?_) | (with_reducible refine ZK_gvWay ?_) | (with_reducible refine ZK_tkIn ?_) | (with_reducible refine ZK_hrAck ?_) | refine ZK_up ?_ (by decide) (by first | exact Or.inl (by decide) | exact Or.inr (Or.inl rfl) | exact Or.inr (Or.inr rfl) | exact Or.inr (b01_z _))))
theorem ZK_lsNew {A0 A : MI} {r s : Nat} {ld t c amt num : Int32} (h : ZK A0 A) : ZK A0 (lsNew A r s ld t c amt num) := by
  unfold lsNew
  try dsimp only
  repeat' split
  all_goals (try dsimp only)
  all_goals (repeat (first | (with_reducible exact h) | (with_reducible refine ZK_wr ?_) | (with_reducible refine ZK_chg ?_) | (with_reducible refine ZK_chgTo ?_) | (with_reducible refine ZK_bnd ?_) | (with_reducible refine ZK_settle ?_) | (with_reducible refine ZK_tkBound ?_) | (with_reducible refine ZK_tkEnding ?_) | (with_reducible refine ZK_tkGiven ?_) | (with_reducible refine ZK_lnKnown ?_) | (with_reducible refine ZK_lnAck ?_) | (with_reducible refine ZK_gvWay ?_) | (with_reducible refine ZK_tkIn ?_) | (with_reducible refine ZK_hrAck ?_) | (with_reducible refine ZK_hrRel ?_) | refine ZK_up ?_ (by decide) (by first | exact Or.inl (by decide) | exact Or.inr (Or.inl rfl) | exact Or.inr (Or.inr rfl) | exact Or.inr (b01_z _))))
theorem ZK_rnw {A0 A : MI} {r s a : Nat} {ld t c amt num : Int32} (h : ZK A0 A) : ZK A0 (rnw A r s a ld t c amt num).2 := by
  unfold rnw
  try dsimp only
  repeat' split
  all_goals (try dsimp only)
  all_goals (repeat (first | (with_reducible exact h) | (with_reducible refine ZK_wr ?_) | (with_reducible refine ZK_chg ?_) | (with_reducible refine ZK_chgTo ?_) | (with_reducible refine ZK_bnd ?_) | (with_reducible refine ZK_settle ?_) | (with_reducible refine ZK_tkBound ?_) | (with_reducible refine ZK_tkEnding ?_) | (with_reducible refine ZK_tkGiven ?_) | (with_reducible refine ZK_lnKnown ?_) | (with_reducible refine ZK_lnAck ?_) | (with_reducible refine ZK_gvWay ?_) | (with_reducible refine ZK_tkIn ?_) | (with_reducible refine ZK_hrAck ?_) | (with_reducible refine ZK_hrRel ?_) | (with_reducible refine ZK_lsNew ?_) | refine ZK_up ?_ (by decide) (by first | exact Or.inl (by decide) | exact Or.inr (Or.inl rfl) | exact Or.inr (Or.inr rfl) | exact Or.inr (b01_z _))))
theorem ZK_endT {A0 A : MI} {r : Nat} {t : Int32} (h : ZK A0 A) : ZK A0 (endT A r t).2 := by
  unfold endT
  try dsimp only
  repeat' split
  all_goals (try dsimp only)
  all_goals (repeat (first | (with_reducible exact h) | (with_reducible refine ZK_wr ?_) | (with_reducible refine ZK_chg ?_) | (with_reducible refine ZK_chgTo ?_) | (with_reducible refine ZK_bnd ?_) | (with_reducible refine ZK_settle ?_) | (with_reducible refine ZK_tkBound ?_) | (with_reducible refine ZK_tkEnding ?_) | (with_reducible refine ZK_tkGiven ?_) | (with_reducible refine ZK_lnKnown ?_) | (with_reducible refine ZK_lnAck ?_) | (with_reducible refine ZK_gvWay ?_) | (with_reducible refine ZK_tkIn ?_) | (with_reducible refine ZK_hrAck ?_) | (with_reducible refine ZK_hrRel ?_) | (with_reducible refine ZK_lsNew ?_) | (with_reducible refine ZK_rnw ?_) | refine ZK_up ?_ (by decide) (by first | exact Or.inl (by decide) | exact Or.inr (Or.inl rfl) | exact Or.inr (Or.inr rfl) | exact Or.inr (b01_z _))))
theorem ZK_enSole {A0 A : MI} {r : Nat} {t : Int32} (h : ZK A0 A) : ZK A0 (enSole A r t).2 := by
  unfold enSole
  try dsimp only
  repeat' split
  all_goals (try dsimp only)
  all_goals (repeat (first | (with_reducible exact h) | (with_reducible refine ZK_wr ?_) | (with_reducible refine ZK_chg ?_) | (with_reducible refine ZK_chgTo ?_) | (with_reducible refine ZK_bnd ?_) | (with_reducible refine ZK_settle ?_) | (with_reducible refine ZK_tkBound ?_) | (with_reducible refine ZK_tkEnding ?_) | (with_reducible refine ZK_tkGiven ?_) | (with_reducible refine ZK_lnKnown ?_) | (with_reducible refine ZK_lnAck ?_) | (with_reducible refine ZK_gvWay ?_) | (with_reducible refine ZK_tkIn ?_) | (with_reducible refine ZK_hrAck ?_) | (with_reducible refine ZK_hrRel ?_) | (with_reducible refine ZK_lsNew ?_) | (with_reducible refine ZK_rnw ?_) | (with_reducible refine ZK_endT ?_) | refine ZK_up ?_ (by decide) (by first | exact Or.inl (by decide) | exact Or.inr (Or.inl rfl) | exact Or.inr (Or.inr rfl) | exact Or.inr (b01_z _))))
theorem ZK_tkOver {A0 A : MI} {r s : Nat} {ld sk t : Int32} (h : ZK A0 A) : ZK A0 (tkOver A r s ld sk t).2 := by
  unfold tkOver
  try dsimp only
  repeat' split
  all_goals (try dsimp only)
  all_goals (repeat (first | (with_reducible exact h) | (with_reducible refine ZK_wr ?_) | (with_reducible refine ZK_chg ?_) | (with_reducible refine ZK_chgTo ?_) | (with_reducible refine ZK_bnd ?_) | (with_reducible refine ZK_settle ?_) | (with_reducible refine ZK_tkBound ?_) | (with_reducible refine ZK_tkEnding ?_) | (with_reducible refine ZK_tkGiven ?_) | (with_reducible refine ZK_lnKnown ?_) | (with_reducible refine ZK_lnAck ?_) | (with_reducible refine ZK_gvWay ?_) | (with_reducible refine ZK_tkIn ?_) | (with_reducible refine ZK_hrAck ?_) | (with_reducible refine ZK_hrRel ?_) | (with_reducible refine ZK_lsNew ?_) | (with_reducible refine ZK_rnw ?_) | (with_reducible refine ZK_endT ?_) | (with_reducible refine ZK_enSole ?_) | refine ZK_up ?_ (by decide) (by first | exact Or.inl (by decide) | exact Or.inr (Or.inl rfl) | exact Or.inr (Or.inr rfl) | exact Or.inr (b01_z _))))
theorem ZK_enAlone {A0 A : MI} {r s : Nat} {ld sk t : Int32} (h : ZK A0 A) : ZK A0 (enAlone A r s ld sk t).2 := by
  unfold enAlone
  try dsimp only
  repeat' split
  all_goals (try dsimp only)
  all_goals (repeat (first | (with_reducible exact h) | (with_reducible refine ZK_wr ?_) | (with_reducible refine ZK_chg ?_) | (with_reducible refine ZK_chgTo ?_) | (with_reducible refine ZK_bnd ?_) | (with_reducible refine ZK_settle ?_) | (with_reducible refine ZK_tkBound ?_) | (with_reducible refine ZK_tkEnding ?_) | (with_reducible refine ZK_tkGiven ?_) | (with_reducible refine ZK_lnKnown ?_) | (with_reducible refine ZK_lnAck ?_) | (with_reducible refine ZK_gvWay ?_) | (with_reducible refine ZK_tkIn ?_) | (with_reducible refine ZK_hrAck ?_) | (with_reducible refine ZK_hrRel ?_) | (with_reducible refine ZK_lsNew ?_) | (with_reducible refine ZK_rnw ?_) | (with_reducible refine ZK_endT ?_) | (with_reducible refine ZK_enSole ?_) | (with_reducible refine ZK_tkOver ?_) | refine ZK_up ?_ (by decide) (by first | exact Or.inl (by decide) | exact Or.inr (Or.inl rfl) | exact Or.inr (Or.inr rfl) | exact Or.inr (b01_z _))))
theorem ZK_enOne {A0 A : MI} {r s : Nat} {ld sk t : Int32} (h : ZK A0 A) : ZK A0 (enOne A r s ld sk t).2 := by
  unfold enOne
  try dsimp only
  repeat' split
  all_goals (try dsimp only)
  all_goals (repeat (first | (with_reducible exact h) | (with_reducible refine ZK_wr ?_) | (with_reducible refine ZK_chg ?_) | (with_reducible refine ZK_chgTo ?_) | (with_reducible refine ZK_bnd ?_) | (with_reducible refine ZK_settle ?_) | (with_reducible refine ZK_tkBound ?_) | (with_reducible refine ZK_tkEnding ?_) | (with_reducible refine ZK_tkGiven ?_) | (with_reducible refine ZK_lnKnown ?_) | (with_reducible refine ZK_lnAck ?_) | (with_reducible refine ZK_gvWay ?_) | (with_reducible refine ZK_tkIn ?_) | (with_reducible refine ZK_hrAck ?_) | (with_reducible refine ZK_hrRel ?_) | (with_reducible refine ZK_lsNew ?_) | (with_reducible refine ZK_rnw ?_) | (with_reducible refine ZK_endT ?_) | (with_reducible refine ZK_enSole ?_) | (with_reducible refine ZK_tkOver ?_) | (with_reducible refine ZK_enAlone ?_) | refine ZK_up ?_ (by decide) (by first | exact Or.inl (by decide) | exact Or.inr (Or.inl rfl) | exact Or.inr (Or.inr rfl) | exact Or.inr (b01_z _))))
theorem ZK_clrR {A0 : MI} {s : Nat} : ∀ (k i : Nat) (A : MI), ZK A0 A → ZK A0 (clrR s k i A) := by
  intro k
  induction k with
  | zero => intros; assumption
  | succ k ih =>
    intro i A h
    unfold clrR
    refine ih _ _ ?_
    repeat (first | (with_reducible exact h) | (with_reducible refine ZK_wr ?_) | (with_reducible refine ZK_chg ?_) | (with_reducible refine ZK_chgTo ?_) | (with_reducible refine ZK_bnd ?_) | (with_reducible refine ZK_settle ?_) | (with_reducible refine ZK_tkBound ?_) | (with_reducible refine ZK_tkEnding ?_) | (with_reducible refine ZK_tkGiven ?_) | (with_reducible refine ZK_lnKnown ?_) | (with_reducible refine ZK_lnAck ?_) | (with_reducible refine ZK_gvWay ?_) | (with_reducible refine ZK_tkIn ?_) | (with_reducible refine ZK_hrAck ?_) | (with_reducible refine ZK_hrRel ?_) | (with_reducible refine ZK_lsNew ?_) | (with_reducible refine ZK_rnw ?_) | (with_reducible refine ZK_endT ?_) | (with_reducible refine ZK_enSole ?_) | (with_reducible refine ZK_tkOver ?_) | (with_reducible refine ZK_enAlone ?_) | (with_reducible refine ZK_enOne ?_) | refine ZK_up ?_ (by decide) (by first | exact Or.inl (by decide) | exact Or.inr (Or.inl rfl) | exact Or.inr (Or.inr rfl) | exact Or.inr (b01_z _)))
theorem ZK_rejR {A0 : MI} {s : Nat} : ∀ (k i : Nat) (A : MI), ZK A0 A → ZK A0 (rejR s k i A) := by
  intro k
  induction k with
  | zero => intros; assumption
  | succ k ih =>
    intro i A h
    unfold rejR
    refine ih _ _ ?_
    repeat (first | (with_reducible exact h) | (with_reducible refine ZK_wr ?_) | (with_reducible refine ZK_chg ?_) | (with_reducible refine ZK_chgTo ?_) | (with_reducible refine ZK_bnd ?_) | (with_reducible refine ZK_settle ?_) | (with_reducible refine ZK_tkBound ?_) | (with_reducible refine ZK_tkEnding ?_) | (with_reducible refine ZK_tkGiven ?_) | (with_reducible refine ZK_lnKnown ?_) | (with_reducible refine ZK_lnAck ?_) | (with_reducible refine ZK_gvWay ?_) | (with_reducible refine ZK_tkIn ?_) | (with_reducible refine ZK_hrAck ?_) | (with_reducible refine ZK_hrRel ?_) | (with_reducible refine ZK_lsNew ?_) | (with_reducible refine ZK_rnw ?_) | (with_reducible refine ZK_endT ?_) | (with_reducible refine ZK_enSole ?_) | (with_reducible refine ZK_tkOver ?_) | (with_reducible refine ZK_enAlone ?_) | (with_reducible refine ZK_enOne ?_) | refine ZK_up ?_ (by decide) (by first | exact Or.inl (by decide) | exact Or.inr (Or.inl rfl) | exact Or.inr (Or.inr rfl) | exact Or.inr (b01_z _)))
theorem ZK_solR {A0 : MI} {s : Nat} : ∀ (k i : Nat) (A : MI), ZK A0 A → ZK A0 (solR s k i A) := by
  intro k
  induction k with
  | zero => intros; assumption
  | succ k ih =>
    intro i A h
    unfold solR
    refine ih _ _ ?_
    repeat (first | (with_reducible exact h) | (with_reducible refine ZK_wr ?_) | (with_reducible refine ZK_chg ?_) | (with_reducible refine ZK_chgTo ?_) | (with_reducible refine ZK_bnd ?_) | (with_reducible refine ZK_settle ?_) | (with_reducible refine ZK_tkBound ?_) | (with_reducible refine ZK_tkEnding ?_) | (with_reducible refine ZK_tkGiven ?_) | (with_reducible refine ZK_lnKnown ?_) | (with_reducible refine ZK_lnAck ?_) | (with_reducible refine ZK_gvWay ?_) | (with_reducible refine ZK_tkIn ?_) | (with_reducible refine ZK_hrAck ?_) | (with_reducible refine ZK_hrRel ?_) | (with_reducible refine ZK_lsNew ?_) | (with_reducible refine ZK_rnw ?_) | (with_reducible refine ZK_endT ?_) | (with_reducible refine ZK_enSole ?_) | (with_reducible refine ZK_tkOver ?_) | (with_reducible refine ZK_enAlone ?_) | (with_reducible refine ZK_enOne ?_) | refine ZK_up ?_ (by decide) (by first | exact Or.inl (by decide) | exact Or.inr (Or.inl rfl) | exact Or.inr (Or.inr rfl) | exact Or.inr (b01_z _)))
theorem ZK_hndR {A0 : MI} {s : Nat} {m : Int32} : ∀ (k i : Nat) (g : Int32) (A : MI), ZK A0 A → ZK A0 ((hndR s m k i g A).2) := by
  intro k
  induction k with
  | zero => intros; assumption
  | succ k ih =>
    intro i g A h
    unfold hndR
    repeat' split
    · exact h
    · refine ih _ _ _ ?_
      repeat (first | (with_reducible exact h) | (with_reducible refine ZK_wr ?_) | (with_reducible refine ZK_chg ?_) | (with_reducible refine ZK_chgTo ?_) | (with_reducible refine ZK_bnd ?_) | (with_reducible refine ZK_settle ?_) | (with_reducible refine ZK_tkBound ?_) | (with_reducible refine ZK_tkEnding ?_) | (with_reducible refine ZK_tkGiven ?_) | (with_reducible refine ZK_lnKnown ?_) | (with_reducible refine ZK_lnAck ?_) | (with_reducible refine ZK_gvWay ?_) | (with_reducible refine ZK_tkIn ?_) | (with_reducible refine ZK_hrAck ?_) | (with_reducible refine ZK_hrRel ?_) | (with_reducible refine ZK_lsNew ?_) | (with_reducible refine ZK_rnw ?_) | (with_reducible refine ZK_endT ?_) | (with_reducible refine ZK_enSole ?_) | (with_reducible refine ZK_tkOver ?_) | (with_reducible refine ZK_enAlone ?_) | (with_reducible refine ZK_enOne ?_) | refine ZK_up ?_ (by decide) (by first | exact Or.inl (by decide) | exact Or.inr (Or.inl rfl) | exact Or.inr (Or.inr rfl) | exact Or.inr (b01_z _)))
    · exact ih _ _ _ h
theorem ZK_endR {A0 : MI} {s : Nat} {ld sk t : Int32} : ∀ (k i : Nat) (g : Int32) (A : MI), ZK A0 A → ZK A0 ((endR s ld sk t k i g A).2) := by
  intro k
  induction k with
  | zero => intros; assumption
  | succ k ih =>
    intro i g A h
    unfold endR
    refine ih _ _ _ ?_
    exact ZK_enOne h
theorem ZK_wrIf {A0 A : MI} {c : Int32} {s : Nat} (h : ZK A0 A) : ZK A0 (wrIf c A s) := by
  unfold wrIf
  split
  · exact h
  · exact ZK_wr h
theorem ZK_fA {A0 A : MI} {v : Int32} {s : Nat} (h : ZK A0 A) : ZK A0 (fA A s v) := by
  unfold fA
  split
  · exact h
  · exact ZK_wr h
theorem ZK_hhA {A0 A : MI} {s n : Nat} {num : Int32} (h : ZK A0 A) : ZK A0 (hhA A s n num) := by
  unfold hhA
  split
  · refine ZK_wr ?_
    split
    · refine ZK_rejR _ _ _ ?_
      exact ZK_up (ZK_up h (by decide) (Or.inl (by decide))) (by decide) (Or.inl (by decide))
    · exact ZK_up h (by decide) (Or.inl (by decide))
  · exact h
theorem ZK_lnwA {A0 A : MI} {s n : Nat} {ld t c amt num : Int32} (h : ZK A0 A) : ZK A0 (lnwA A s n ld t c amt num) := by
  unfold lnwA
  try dsimp only
  repeat' split
  all_goals (try dsimp only)
  all_goals (repeat (first | (with_reducible exact h) | (with_reducible refine ZK_wr ?_) | (with_reducible refine ZK_chg ?_) | (with_reducible refine ZK_chgTo ?_) | (with_reducible refine ZK_bnd ?_) | (with_reducible refine ZK_settle ?_) | (with_reducible refine ZK_tkBound ?_) | (with_reducible refine ZK_tkEnding ?_) | (with_reducible refine ZK_tkGiven ?_) | (with_reducible refine ZK_lnKnown ?_) | (with_reducible refine ZK_lnAck ?_) | (with_reducible refine ZK_gvWay ?_) | (with_reducible refine ZK_tkIn ?_) | (with_reducible refine ZK_hrAck ?_) | (with_reducible refine ZK_hrRel ?_) | (with_reducible refine ZK_lsNew ?_) | (with_reducible refine ZK_rnw ?_) | (with_reducible refine ZK_endT ?_) | (with_reducible refine ZK_enSole ?_) | (with_reducible refine ZK_tkOver ?_) | (with_reducible refine ZK_enAlone ?_) | (with_reducible refine ZK_enOne ?_) | (with_reducible refine ZK_hhA ?_) | (with_reducible refine ZK_fA ?_) | refine ZK_up ?_ (by decide) (by first | exact Or.inl (by decide) | exact Or.inr (Or.inl rfl) | exact Or.inr (Or.inr rfl) | exact Or.inr (b01_z _))))
theorem ZK_hrnA {A0 A : MI} {s a : Nat} {ld t : Int32} {x : Msg} (h : ZK A0 A) : ZK A0 (hrnA A s a ld t x) := by
  unfold hrnA
  try dsimp only
  repeat' split
  all_goals (try dsimp only)
  all_goals (repeat (first | (with_reducible exact h) | (with_reducible refine ZK_wr ?_) | (with_reducible refine ZK_chg ?_) | (with_reducible refine ZK_chgTo ?_) | (with_reducible refine ZK_bnd ?_) | (with_reducible refine ZK_settle ?_) | (with_reducible refine ZK_tkBound ?_) | (with_reducible refine ZK_tkEnding ?_) | (with_reducible refine ZK_tkGiven ?_) | (with_reducible refine ZK_lnKnown ?_) | (with_reducible refine ZK_lnAck ?_) | (with_reducible refine ZK_gvWay ?_) | (with_reducible refine ZK_tkIn ?_) | (with_reducible refine ZK_hrAck ?_) | (with_reducible refine ZK_hrRel ?_) | (with_reducible refine ZK_lsNew ?_) | (with_reducible refine ZK_rnw ?_) | (with_reducible refine ZK_endT ?_) | (with_reducible refine ZK_enSole ?_) | (with_reducible refine ZK_tkOver ?_) | (with_reducible refine ZK_enAlone ?_) | (with_reducible refine ZK_enOne ?_) | (with_reducible refine ZK_hhA ?_) | (with_reducible refine ZK_fA ?_) | (with_reducible refine ZK_lnwA ?_) | refine ZK_up ?_ (by decide) (by first | exact Or.inl (by decide) | exact Or.inr (Or.inl rfl) | exact Or.inr (Or.inr rfl) | exact Or.inr (b01_z _))))
theorem ZK_hnwA {A0 A : MI} {s n : Nat} {ld t : Int32} {x : Msg} (h : ZK A0 A) : ZK A0 (hnwA A s n ld t x) := by
  unfold hnwA
  try dsimp only
  repeat' split
  all_goals (try dsimp only)
  all_goals (repeat (first | (with_reducible exact h) | (with_reducible refine ZK_wr ?_) | (with_reducible refine ZK_chg ?_) | (with_reducible refine ZK_chgTo ?_) | (with_reducible refine ZK_bnd ?_) | (with_reducible refine ZK_settle ?_) | (with_reducible refine ZK_tkBound ?_) | (with_reducible refine ZK_tkEnding ?_) | (with_reducible refine ZK_tkGiven ?_) | (with_reducible refine ZK_lnKnown ?_) | (with_reducible refine ZK_lnAck ?_) | (with_reducible refine ZK_gvWay ?_) | (with_reducible refine ZK_tkIn ?_) | (with_reducible refine ZK_hrAck ?_) | (with_reducible refine ZK_hrRel ?_) | (with_reducible refine ZK_lsNew ?_) | (with_reducible refine ZK_rnw ?_) | (with_reducible refine ZK_endT ?_) | (with_reducible refine ZK_enSole ?_) | (with_reducible refine ZK_tkOver ?_) | (with_reducible refine ZK_enAlone ?_) | (with_reducible refine ZK_enOne ?_) | (with_reducible refine ZK_hhA ?_) | (with_reducible refine ZK_fA ?_) | (with_reducible refine ZK_lnwA ?_) | (with_reducible refine ZK_hrnA ?_) | refine ZK_up ?_ (by decide) (by first | exact Or.inl (by decide) | exact Or.inr (Or.inl rfl) | exact Or.inr (Or.inr rfl) | exact Or.inr (b01_z _))))
theorem ZK_uTk {A0 A : MI} {r s : Nat} {t : Int32} {x : Msg} (h : ZK A0 A) : ZK A0 (uTk A r s t x).2 := by
  unfold uTk
  try dsimp only
  repeat' split
  all_goals (try dsimp only)
  all_goals (repeat (first | (with_reducible exact h) | (with_reducible refine ZK_wr ?_) | (with_reducible refine ZK_chg ?_) | (with_reducible refine ZK_chgTo ?_) | (with_reducible refine ZK_bnd ?_) | (with_reducible refine ZK_settle ?_) | (with_reducible refine ZK_tkBound ?_) | (with_reducible refine ZK_tkEnding ?_) | (with_reducible refine ZK_tkGiven ?_) | (with_reducible refine ZK_lnKnown ?_) | (with_reducible refine ZK_lnAck ?_) | (with_reducible refine ZK_gvWay ?_) | (with_reducible refine ZK_tkIn ?_) | (with_reducible refine ZK_hrAck ?_) | (with_reducible refine ZK_hrRel ?_) | (with_reducible refine ZK_lsNew ?_) | (with_reducible refine ZK_rnw ?_) | (with_reducible refine ZK_endT ?_) | (with_reducible refine ZK_enSole ?_) | (with_reducible refine ZK_tkOver ?_) | (with_reducible refine ZK_enAlone ?_) | (with_reducible refine ZK_enOne ?_) | (with_reducible refine ZK_hhA ?_) | (with_reducible refine ZK_fA ?_) | (with_reducible refine ZK_lnwA ?_) | (with_reducible refine ZK_hrnA ?_) | (with_reducible refine ZK_hnwA ?_) | refine ZK_up ?_ (by decide) (by first | exact Or.inl (by decide) | exact Or.inr (Or.inl rfl) | exact Or.inr (Or.inr rfl) | exact Or.inr (b01_z _))))
theorem ZK_uA1 {A0 A : MI} {r s : Nat} {x : Msg} (h : ZK A0 A) : ZK A0 (uA1 A r s x) := by
  unfold uA1
  try dsimp only
  repeat' split
  all_goals (try dsimp only)
  all_goals (repeat (first | (with_reducible exact h) | (with_reducible refine ZK_wr ?_) | (with_reducible refine ZK_chg ?_) | (with_reducible refine ZK_chgTo ?_) | (with_reducible refine ZK_bnd ?_) | (with_reducible refine ZK_settle ?_) | (with_reducible refine ZK_tkBound ?_) | (with_reducible refine ZK_tkEnding ?_) | (with_reducible refine ZK_tkGiven ?_) | (with_reducible refine ZK_lnKnown ?_) | (with_reducible refine ZK_lnAck ?_) | (with_reducible refine ZK_gvWay ?_) | (with_reducible refine ZK_tkIn ?_) | (with_reducible refine ZK_hrAck ?_) | (with_reducible refine ZK_hrRel ?_) | (with_reducible refine ZK_lsNew ?_) | (with_reducible refine ZK_rnw ?_) | (with_reducible refine ZK_endT ?_) | (with_reducible refine ZK_enSole ?_) | (with_reducible refine ZK_tkOver ?_) | (with_reducible refine ZK_enAlone ?_) | (with_reducible refine ZK_enOne ?_) | (with_reducible refine ZK_hhA ?_) | (with_reducible refine ZK_fA ?_) | (with_reducible refine ZK_lnwA ?_) | (with_reducible refine ZK_hrnA ?_) | (with_reducible refine ZK_hnwA ?_) | (with_reducible refine ZK_uTk ?_) | refine ZK_up ?_ (by decide) (by first | exact Or.inl (by decide) | exact Or.inr (Or.inl rfl) | exact Or.inr (Or.inr rfl) | exact Or.inr (b01_z _))))
theorem ZK_uA2 {A0 A : MI} {r s : Nat} {t : Int32} {x : Msg} (h : ZK A0 A) : ZK A0 (uA2 A r s t x) := by
  unfold uA2
  try dsimp only
  repeat' split
  all_goals (try dsimp only)
  all_goals (repeat (first | (with_reducible exact h) | (with_reducible refine ZK_wr ?_) | (with_reducible refine ZK_chg ?_) | (with_reducible refine ZK_chgTo ?_) | (with_reducible refine ZK_bnd ?_) | (with_reducible refine ZK_settle ?_) | (with_reducible refine ZK_tkBound ?_) | (with_reducible refine ZK_tkEnding ?_) | (with_reducible refine ZK_tkGiven ?_) | (with_reducible refine ZK_lnKnown ?_) | (with_reducible refine ZK_lnAck ?_) | (with_reducible refine ZK_gvWay ?_) | (with_reducible refine ZK_tkIn ?_) | (with_reducible refine ZK_hrAck ?_) | (with_reducible refine ZK_hrRel ?_) | (with_reducible refine ZK_lsNew ?_) | (with_reducible refine ZK_rnw ?_) | (with_reducible refine ZK_endT ?_) | (with_reducible refine ZK_enSole ?_) | (with_reducible refine ZK_tkOver ?_) | (with_reducible refine ZK_enAlone ?_) | (with_reducible refine ZK_enOne ?_) | (with_reducible refine ZK_hhA ?_) | (with_reducible refine ZK_fA ?_) | (with_reducible refine ZK_lnwA ?_) | (with_reducible refine ZK_hrnA ?_) | (with_reducible refine ZK_hnwA ?_) | (with_reducible refine ZK_uTk ?_) | (with_reducible refine ZK_uA1 ?_) | refine ZK_up ?_ (by decide) (by first | exact Or.inl (by decide) | exact Or.inr (Or.inl rfl) | exact Or.inr (Or.inr rfl) | exact Or.inr (b01_z _))))
theorem ZK_uA3 {A0 A : MI} {s n : Nat} (h : ZK A0 A) : ZK A0 (uA3 A s n) := by
  unfold uA3
  try dsimp only
  repeat' split
  all_goals (try dsimp only)
  all_goals (repeat (first | (with_reducible exact h) | (with_reducible refine ZK_wr ?_) | (with_reducible refine ZK_chg ?_) | (with_reducible refine ZK_chgTo ?_) | (with_reducible refine ZK_bnd ?_) | (with_reducible refine ZK_settle ?_) | (with_reducible refine ZK_tkBound ?_) | (with_reducible refine ZK_tkEnding ?_) | (with_reducible refine ZK_tkGiven ?_) | (with_reducible refine ZK_lnKnown ?_) | (with_reducible refine ZK_lnAck ?_) | (with_reducible refine ZK_gvWay ?_) | (with_reducible refine ZK_tkIn ?_) | (with_reducible refine ZK_hrAck ?_) | (with_reducible refine ZK_hrRel ?_) | (with_reducible refine ZK_lsNew ?_) | (with_reducible refine ZK_rnw ?_) | (with_reducible refine ZK_endT ?_) | (with_reducible refine ZK_enSole ?_) | (with_reducible refine ZK_tkOver ?_) | (with_reducible refine ZK_enAlone ?_) | (with_reducible refine ZK_enOne ?_) | (with_reducible refine ZK_hhA ?_) | (with_reducible refine ZK_fA ?_) | (with_reducible refine ZK_lnwA ?_) | (with_reducible refine ZK_hrnA ?_) | (with_reducible refine ZK_hnwA ?_) | (with_reducible refine ZK_uTk ?_) | (with_reducible refine ZK_uA1 ?_) | (with_reducible refine ZK_uA2 ?_) | refine ZK_up ?_ (by decide) (by first | exact Or.inl (by decide) | exact Or.inr (Or.inl rfl) | exact Or.inr (Or.inr rfl) | exact Or.inr (b01_z _))))
theorem ZK_uA4 {A0 A : MI} {s n : Nat} {v6 : Int32} (h : ZK A0 A) : ZK A0 (uA4 A s n v6) := by
  unfold uA4
  try dsimp only
  repeat' split
  all_goals (try dsimp only)
  all_goals (repeat (first | (with_reducible exact h) | (with_reducible refine ZK_wr ?_) | (with_reducible refine ZK_chg ?_) | (with_reducible refine ZK_chgTo ?_) | (with_reducible refine ZK_bnd ?_) | (with_reducible refine ZK_settle ?_) | (with_reducible refine ZK_tkBound ?_) | (with_reducible refine ZK_tkEnding ?_) | (with_reducible refine ZK_tkGiven ?_) | (with_reducible refine ZK_lnKnown ?_) | (with_reducible refine ZK_lnAck ?_) | (with_reducible refine ZK_gvWay ?_) | (with_reducible refine ZK_tkIn ?_) | (with_reducible refine ZK_hrAck ?_) | (with_reducible refine ZK_hrRel ?_) | (with_reducible refine ZK_lsNew ?_) | (with_reducible refine ZK_rnw ?_) | (with_reducible refine ZK_endT ?_) | (with_reducible refine ZK_enSole ?_) | (with_reducible refine ZK_tkOver ?_) | (with_reducible refine ZK_enAlone ?_) | (with_reducible refine ZK_enOne ?_) | (with_reducible refine ZK_hhA ?_) | (with_reducible refine ZK_fA ?_) | (with_reducible refine ZK_lnwA ?_) | (with_reducible refine ZK_hrnA ?_) | (with_reducible refine ZK_hnwA ?_) | (with_reducible refine ZK_uTk ?_) | (with_reducible refine ZK_uA1 ?_) | (with_reducible refine ZK_uA2 ?_) | (with_reducible refine ZK_uA3 ?_) | refine ZK_up ?_ (by decide) (by first | exact Or.inl (by decide) | exact Or.inr (Or.inl rfl) | exact Or.inr (Or.inr rfl) | exact Or.inr (b01_z _))))
theorem ZK_hupA {A0 A : MI} {r s n : Nat} {t : Int32} {x : Msg} (h : ZK A0 A) : ZK A0 (hupA A r s n t x) := by
  unfold hupA
  try dsimp only
  repeat' split
  all_goals (try dsimp only)
  all_goals (repeat (first | (with_reducible exact h) | (with_reducible refine ZK_wr ?_) | (with_reducible refine ZK_chg ?_) | (with_reducible refine ZK_chgTo ?_) | (with_reducible refine ZK_bnd ?_) | (with_reducible refine ZK_settle ?_) | (with_reducible refine ZK_tkBound ?_) | (with_reducible refine ZK_tkEnding ?_) | (with_reducible refine ZK_tkGiven ?_) | (with_reducible refine ZK_lnKnown ?_) | (with_reducible refine ZK_lnAck ?_) | (with_reducible refine ZK_gvWay ?_) | (with_reducible refine ZK_tkIn ?_) | (with_reducible refine ZK_hrAck ?_) | (with_reducible refine ZK_hrRel ?_) | (with_reducible refine ZK_lsNew ?_) | (with_reducible refine ZK_rnw ?_) | (with_reducible refine ZK_endT ?_) | (with_reducible refine ZK_enSole ?_) | (with_reducible refine ZK_tkOver ?_) | (with_reducible refine ZK_enAlone ?_) | (with_reducible refine ZK_enOne ?_) | (with_reducible refine ZK_hhA ?_) | (with_reducible refine ZK_fA ?_) | (with_reducible refine ZK_lnwA ?_) | (with_reducible refine ZK_hrnA ?_) | (with_reducible refine ZK_hnwA ?_) | (with_reducible refine ZK_uTk ?_) | (with_reducible refine ZK_uA1 ?_) | (with_reducible refine ZK_uA2 ?_) | (with_reducible refine ZK_uA3 ?_) | (with_reducible refine ZK_uA4 ?_) | refine ZK_up ?_ (by decide) (by first | exact Or.inl (by decide) | exact Or.inr (Or.inl rfl) | exact Or.inr (Or.inr rfl) | exact Or.inr (b01_z _))))
theorem ZK_anA {A0 A : MI} {c : Nat} {x : Msg} (h : ZK A0 A) : ZK A0 (anA A c x) := by
  unfold anA
  try dsimp only
  repeat' split
  all_goals (try dsimp only)
  all_goals (repeat (first | (with_reducible exact h) | (with_reducible refine ZK_wr ?_) | (with_reducible refine ZK_chg ?_) | (with_reducible refine ZK_chgTo ?_) | (with_reducible refine ZK_bnd ?_) | (with_reducible refine ZK_settle ?_) | (with_reducible refine ZK_tkBound ?_) | (with_reducible refine ZK_tkEnding ?_) | (with_reducible refine ZK_tkGiven ?_) | (with_reducible refine ZK_lnKnown ?_) | (with_reducible refine ZK_lnAck ?_) | (with_reducible refine ZK_gvWay ?_) | (with_reducible refine ZK_tkIn ?_) | (with_reducible refine ZK_hrAck ?_) | (with_reducible refine ZK_hrRel ?_) | (with_reducible refine ZK_lsNew ?_) | (with_reducible refine ZK_rnw ?_) | (with_reducible refine ZK_endT ?_) | (with_reducible refine ZK_enSole ?_) | (with_reducible refine ZK_tkOver ?_) | (with_reducible refine ZK_enAlone ?_) | (with_reducible refine ZK_enOne ?_) | (with_reducible refine ZK_hhA ?_) | (with_reducible refine ZK_fA ?_) | (with_reducible refine ZK_lnwA ?_) | (with_reducible refine ZK_hrnA ?_) | (with_reducible refine ZK_hnwA ?_) | (with_reducible refine ZK_uTk ?_) | (with_reducible refine ZK_uA1 ?_) | (with_reducible refine ZK_uA2 ?_) | (with_reducible refine ZK_uA3 ?_) | (with_reducible refine ZK_uA4 ?_) | (with_reducible refine ZK_hupA ?_) | refine ZK_up ?_ (by decide) (by first | exact Or.inl (by decide) | exact Or.inr (Or.inl rfl) | exact Or.inr (Or.inr rfl) | exact Or.inr (b01_z _))))
theorem ZK_dlA {A0 A : MI} {n : Nat} {ld : Int32} {x : Msg} (h : ZK A0 A) : ZK A0 (dlA A n ld x) := by
  unfold dlA
  split
  · exact ZK_anA h
  · split
    · exact h
    · split
      · split
        · exact ZK_hrRel h
        · split
          · exact ZK_hrnA h
          · exact ZK_hnwA h
      · split
        · exact ZK_hhA h
        · split
          · exact ZK_hupA h
          · exact ZK_hrAck h
theorem ZK_clReq {A0 A : MI} {c : Nat} {k : Int32} (h : ZK A0 A) : ZK A0 (clReq A c k) := by
  unfold clReq
  try dsimp only
  repeat' split
  all_goals (try dsimp only)
  all_goals (repeat (first | (with_reducible exact h) | (with_reducible refine ZK_wr ?_) | (with_reducible refine ZK_chg ?_) | (with_reducible refine ZK_chgTo ?_) | (with_reducible refine ZK_bnd ?_) | (with_reducible refine ZK_settle ?_) | (with_reducible refine ZK_tkBound ?_) | (with_reducible refine ZK_tkEnding ?_) | (with_reducible refine ZK_tkGiven ?_) | (with_reducible refine ZK_lnKnown ?_) | (with_reducible refine ZK_lnAck ?_) | (with_reducible refine ZK_gvWay ?_) | (with_reducible refine ZK_tkIn ?_) | (with_reducible refine ZK_hrAck ?_) | (with_reducible refine ZK_hrRel ?_) | (with_reducible refine ZK_lsNew ?_) | (with_reducible refine ZK_rnw ?_) | (with_reducible refine ZK_endT ?_) | (with_reducible refine ZK_enSole ?_) | (with_reducible refine ZK_tkOver ?_) | (with_reducible refine ZK_enAlone ?_) | (with_reducible refine ZK_enOne ?_) | (with_reducible refine ZK_hhA ?_) | (with_reducible refine ZK_fA ?_) | (with_reducible refine ZK_lnwA ?_) | (with_reducible refine ZK_hrnA ?_) | (with_reducible refine ZK_hnwA ?_) | (with_reducible refine ZK_uTk ?_) | (with_reducible refine ZK_uA1 ?_) | (with_reducible refine ZK_uA2 ?_) | (with_reducible refine ZK_uA3 ?_) | (with_reducible refine ZK_uA4 ?_) | (with_reducible refine ZK_hupA ?_) | (with_reducible refine ZK_anA ?_) | (with_reducible refine ZK_hhA ?_) | refine ZK_up ?_ (by decide) (by first | exact Or.inl (by decide) | exact Or.inr (Or.inl rfl) | exact Or.inr (Or.inr rfl) | exact Or.inr (b01_z _))))
