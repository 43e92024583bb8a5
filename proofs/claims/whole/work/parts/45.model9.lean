/-! the model: updates -/
/-- the servers' columns stay -/
def L0 (A A' : MI) : Prop := ∀ col i, col < 10 → A' col i = A col i
theorem L0.refl (A : MI) : L0 A A := fun _ _ _ => rfl
theorem L0_up {A0 A : MI} {col i : Nat} {v : Int32} (h : L0 A0 A) (h1 : 10 ≤ col) : L0 A0 (up A col i v) := fun c j hc => (up_c _ _ (by omega)).trans (h c j hc)
theorem MF_zk {C C' : MI} {n : Nat} {ld sk : Int32} (h : MF C n ld sk) (k : ZK C C') : MF C' n ld sk := ⟨h.1, (k.2 _ _ (by decide) (by decide)).trans h.2.1, (k.2 _ _ (by decide) (by decide)).trans h.2.2.1, (k.2 _ _ (by decide) (by decide)).trans h.2.2.2⟩
theorem L0_chg {A0 A : MI} {r : Nat} (h : L0 A0 A) : L0 A0 (chg A r) := by
  unfold chg
  try dsimp only
  repeat' split
  all_goals (try dsimp only)
  all_goals (repeat (first | (with_reducible exact h) | refine L0_up ?_ (by decide)))
theorem L0_chgTo {A0 A : MI} {r : Nat} {k : Int32} (h : L0 A0 A) : L0 A0 (chgTo A r k) := by
  unfold chgTo
  try dsimp only
  repeat' split
  all_goals (try dsimp only)
  all_goals (repeat (first | (with_reducible exact h) | (with_reducible refine L0_chg ?_) | refine L0_up ?_ (by decide)))
theorem L0_bnd {A0 A : MI} {r : Nat} {c e q sn : Int32} (h : L0 A0 A) : L0 A0 (bnd A r c e q sn) := by
  unfold bnd
  try dsimp only
  repeat' split
  all_goals (try dsimp only)
  all_goals (repeat (first | (with_reducible exact h) | (with_reducible refine L0_chg ?_) | (with_reducible refine L0_chgTo ?_) | refine L0_up ?_ (by decide)))
theorem L0_settle {A0 A : MI} {r : Nat} {k : Int32} (h : L0 A0 A) : L0 A0 (settle A r k) := by
  unfold settle
  try dsimp only
  repeat' split
  all_goals (try dsimp only)
  all_goals (repeat (first | (with_reducible exact h) | (with_reducible refine L0_chg ?_) | (with_reducible refine L0_chgTo ?_) | (with_reducible refine L0_bnd ?_) | refine L0_up ?_ (by decide)))
theorem L0_tkBound {A0 A : MI} {r : Nat} {c e rq : Int32} (h : L0 A0 A) : L0 A0 (tkBound A r c e rq).2 := by
  unfold tkBound
  try dsimp only
  repeat' split
  all_goals (try dsimp only)
  all_goals (repeat (first | (with_reducible exact h) | (with_reducible refine L0_chg ?_) | (with_reducible refine L0_chgTo ?_) | (with_reducible refine L0_bnd ?_) | (with_reducible refine L0_settle ?_) | refine L0_up ?_ (by decide)))
theorem L0_tkEnding {A0 A : MI} {r : Nat} {c e t rel rq y : Int32} (h : L0 A0 A) : L0 A0 (tkEnding A r c e t rel rq y).2 := by
  unfold tkEnding
  try dsimp only
  repeat' split
  all_goals (try dsimp only)
  all_goals (repeat (first | (with_reducible exact h) | (with_reducible refine L0_chg ?_) | (with_reducible refine L0_chgTo ?_) | (with_reducible refine L0_bnd ?_) | (with_reducible refine L0_settle ?_) | (with_reducible refine L0_tkBound ?_) | refine L0_up ?_ (by decide)))
theorem L0_tkGiven {A0 A : MI} {r : Nat} (h : L0 A0 A) : L0 A0 (tkGiven A r).2 := by
  unfold tkGiven
  try dsimp only
  repeat' split
  all_goals (try dsimp only)
  all_goals (repeat (first | (with_reducible exact h) | (with_reducible refine L0_chg ?_) | (with_reducible refine L0_chgTo ?_) | (with_reducible refine L0_bnd ?_) | (with_reducible refine L0_settle ?_) | (with_reducible refine L0_tkBound ?_) | (with_reducible refine L0_tkEnding ?_) | refine L0_up ?_ (by decide)))
theorem L0_gvWay {A0 A : MI} {r s : Nat} {k vd sn : Int32} (h : L0 A0 A) : L0 A0 (gvWay A r s k vd sn) := by
  unfold gvWay
  try dsimp only
  repeat' split
  all_goals (try dsimp only)
  all_goals (repeat (first | (with_reducible exact h) | (with_reducible refine L0_chg ?_) | (with_reducible refine L0_chgTo ?_) | (with_reducible refine L0_bnd ?_) | (with_reducible refine L0_settle ?_) | (with_reducible refine L0_tkBound ?_) | (with_reducible refine L0_tkEnding ?_) | (with_reducible refine L0_tkGiven ?_) | refine L0_up ?_ (by decide)))
theorem L0_tkIn {A0 A : MI} {r s : Nat} {num t k c e rq rel vd sn : Int32} (h : L0 A0 A) : L0 A0 (tkIn A r s num t k c e rq rel vd sn).2 := by
  unfold tkIn
  try dsimp only
  repeat' split
  all_goals (try dsimp only)
  all_goals (repeat (first | (with_reducible exact h) | (with_reducible refine L0_chg ?_) | (with_reducible refine L0_chgTo ?_) | (with_reducible refine L0_bnd ?_) | (with_reducible refine L0_settle ?_) | (with_reducible refine L0_tkBound ?_) | (with_reducible refine L0_tkEnding ?_) | (with_reducible refine L0_tkGiven ?_) | (with_reducible refine L0_gvWay ?_) | refine L0_up ?_ (by decide)))
theorem L0_uTk {A0 A : MI} {r s : Nat} {t : Int32} {x : Msg} (h : L0 A0 A) : L0 A0 (uTk A r s t x).2 := by
  unfold uTk
  try dsimp only
  repeat' split
  all_goals (try dsimp only)
  all_goals (repeat (first | (with_reducible exact h) | (with_reducible refine L0_chg ?_) | (with_reducible refine L0_chgTo ?_) | (with_reducible refine L0_bnd ?_) | (with_reducible refine L0_settle ?_) | (with_reducible refine L0_tkBound ?_) | (with_reducible refine L0_tkEnding ?_) | (with_reducible refine L0_tkGiven ?_) | (with_reducible refine L0_gvWay ?_) | (with_reducible refine L0_tkIn ?_) | refine L0_up ?_ (by decide)))
theorem L0_uA1 {A0 A : MI} {r s : Nat} {x : Msg} (h : L0 A0 A) : L0 A0 (uA1 A r s x) := by
  unfold uA1
  try dsimp only
  repeat' split
  all_goals (try dsimp only)
  all_goals (repeat (first | (with_reducible exact h) | (with_reducible refine L0_chg ?_) | (with_reducible refine L0_chgTo ?_) | (with_reducible refine L0_bnd ?_) | (with_reducible refine L0_settle ?_) | (with_reducible refine L0_tkBound ?_) | (with_reducible refine L0_tkEnding ?_) | (with_reducible refine L0_tkGiven ?_) | (with_reducible refine L0_gvWay ?_) | (with_reducible refine L0_tkIn ?_) | (with_reducible refine L0_uTk ?_) | refine L0_up ?_ (by decide)))
theorem L0_uA2 {A0 A : MI} {r s : Nat} {t : Int32} {x : Msg} (h : L0 A0 A) : L0 A0 (uA2 A r s t x) := by
  unfold uA2
  try dsimp only
  repeat' split
  all_goals (try dsimp only)
  all_goals (repeat (first | (with_reducible exact h) | (with_reducible refine L0_chg ?_) | (with_reducible refine L0_chgTo ?_) | (with_reducible refine L0_bnd ?_) | (with_reducible refine L0_settle ?_) | (with_reducible refine L0_tkBound ?_) | (with_reducible refine L0_tkEnding ?_) | (with_reducible refine L0_tkGiven ?_) | (with_reducible refine L0_gvWay ?_) | (with_reducible refine L0_tkIn ?_) | (with_reducible refine L0_uTk ?_) | (with_reducible refine L0_uA1 ?_) | refine L0_up ?_ (by decide)))
theorem uA2_n {A : MI} {r s : Nat} {t : Int32} {x : Msg} (q : ¬ A 19 r < x 5) : uA2 A r s t x = A ∧ uTk A r s t x = (0, A) := by
  have e : uTk A r s t x = (0, A) := by unfold uTk; rw [if_neg q]
  exact ⟨by unfold uA2; rw [e, if_pos rfl], e⟩
theorem uA2_0 {A : MI} {r s : Nat} {t : Int32} {x : Msg} (q : A 19 r < x 5) (c : (tkIn A r s (nI s) t (x 3) (x 9) (x 6) (x 10) (x 11) (x 13) (x 12)).1 = 0) : uA2 A r s t x = (tkIn A r s (nI s) t (x 3) (x 9) (x 6) (x 10) (x 11) (x 13) (x 12)).2 ∧ uTk A r s t x = tkIn A r s (nI s) t (x 3) (x 9) (x 6) (x 10) (x 11) (x 13) (x 12) := by
  have e : uTk A r s t x = tkIn A r s (nI s) t (x 3) (x 9) (x 6) (x 10) (x 11) (x 13) (x 12) := by unfold uTk; rw [if_pos q]
  exact ⟨by unfold uA2; rw [e, if_pos c], e⟩
theorem uA2_1 {A : MI} {r s : Nat} {t : Int32} {x : Msg} (q : A 19 r < x 5) (c : ¬ (tkIn A r s (nI s) t (x 3) (x 9) (x 6) (x 10) (x 11) (x 13) (x 12)).1 = 0) : uA2 A r s t x = up (tkIn A r s (nI s) t (x 3) (x 9) (x 6) (x 10) (x 11) (x 13) (x 12)).2 19 r (x 5) ∧ uTk A r s t x = tkIn A r s (nI s) t (x 3) (x 9) (x 6) (x 10) (x 11) (x 13) (x 12) := by
  have e : uTk A r s t x = tkIn A r s (nI s) t (x 3) (x 9) (x 6) (x 10) (x 11) (x 13) (x 12) := by unfold uTk; rw [if_pos q]
  exact ⟨by unfold uA2; rw [e, if_neg c], e⟩
theorem d_Mod_hearUpdate_0 : decode b_Mod_hearUpdate 0 = .ok (.bipush 32, 2) := by decide +kernel
theorem d_Mod_hearUpdate_2 : decode b_Mod_hearUpdate 2 = .ok (.iload_n 1, 1) := by decide +kernel
theorem d_Mod_hearUpdate_3 : decode b_Mod_hearUpdate 3 = .ok (.imul, 1) := by decide +kernel
theorem d_Mod_hearUpdate_4 : decode b_Mod_hearUpdate 4 = .ok (.aload_n 2, 1) := by decide +kernel
theorem d_Mod_hearUpdate_5 : decode b_Mod_hearUpdate 5 = .ok (.iconst 4, 1) := by decide +kernel
theorem d_Mod_hearUpdate_6 : decode b_Mod_hearUpdate 6 = .ok (.iaload, 1) := by decide +kernel
theorem d_Mod_hearUpdate_7 : decode b_Mod_hearUpdate 7 = .ok (.iadd, 1) := by decide +kernel
theorem d_Mod_hearUpdate_8 : decode b_Mod_hearUpdate 8 = .ok (.istore_n 3, 1) := by decide +kernel
theorem d_Mod_hearUpdate_9 : decode b_Mod_hearUpdate 9 = .ok (.aload_n 2, 1) := by decide +kernel
theorem d_Mod_hearUpdate_10 : decode b_Mod_hearUpdate 10 = .ok (.bipush 7, 2) := by decide +kernel
theorem d_Mod_hearUpdate_12 : decode b_Mod_hearUpdate 12 = .ok (.iaload, 1) := by decide +kernel
theorem d_Mod_hearUpdate_13 : decode b_Mod_hearUpdate 13 = .ok (.aload_n 0, 1) := by decide +kernel
theorem d_Mod_hearUpdate_14 : decode b_Mod_hearUpdate 14 = .ok (.getfield 65, 3) := by decide +kernel
theorem d_Mod_hearUpdate_17 : decode b_Mod_hearUpdate 17 = .ok (.iload_n 3, 1) := by decide +kernel
theorem d_Mod_hearUpdate_18 : decode b_Mod_hearUpdate 18 = .ok (.iaload, 1) := by decide +kernel
theorem d_Mod_hearUpdate_19 : decode b_Mod_hearUpdate 19 = .ok (.if_icmp .gt 4, 3) := by decide +kernel
theorem d_Mod_hearUpdate_22 : decode b_Mod_hearUpdate 22 = .ok (.return_, 1) := by decide +kernel
theorem d_Mod_hearUpdate_23 : decode b_Mod_hearUpdate 23 = .ok (.aload_n 0, 1) := by decide +kernel
theorem d_Mod_hearUpdate_24 : decode b_Mod_hearUpdate 24 = .ok (.getfield 71, 3) := by decide +kernel
theorem d_Mod_hearUpdate_27 : decode b_Mod_hearUpdate 27 = .ok (.iload_n 3, 1) := by decide +kernel
theorem d_Mod_hearUpdate_28 : decode b_Mod_hearUpdate 28 = .ok (.aload_n 0, 1) := by decide +kernel
theorem d_Mod_hearUpdate_29 : decode b_Mod_hearUpdate 29 = .ok (.getfield 71, 3) := by decide +kernel
theorem d_Mod_hearUpdate_32 : decode b_Mod_hearUpdate 32 = .ok (.iload_n 3, 1) := by decide +kernel
theorem d_Mod_hearUpdate_33 : decode b_Mod_hearUpdate 33 = .ok (.baload, 1) := by decide +kernel
theorem d_Mod_hearUpdate_34 : decode b_Mod_hearUpdate 34 = .ok (.ifCond .ne 16, 3) := by decide +kernel
theorem d_Mod_hearUpdate_37 : decode b_Mod_hearUpdate 37 = .ok (.aload_n 2, 1) := by decide +kernel
theorem d_Mod_hearUpdate_38 : decode b_Mod_hearUpdate 38 = .ok (.bipush 8, 2) := by decide +kernel
theorem d_Mod_hearUpdate_40 : decode b_Mod_hearUpdate 40 = .ok (.iaload, 1) := by decide +kernel
theorem d_Mod_hearUpdate_41 : decode b_Mod_hearUpdate 41 = .ok (.aload_n 0, 1) := by decide +kernel
theorem d_Mod_hearUpdate_42 : decode b_Mod_hearUpdate 42 = .ok (.getfield 16, 3) := by decide +kernel
theorem d_Mod_hearUpdate_45 : decode b_Mod_hearUpdate 45 = .ok (.iload_n 1, 1) := by decide +kernel
theorem d_Mod_hearUpdate_46 : decode b_Mod_hearUpdate 46 = .ok (.iaload, 1) := by decide +kernel
theorem d_Mod_hearUpdate_47 : decode b_Mod_hearUpdate 47 = .ok (.if_icmp .ne 7, 3) := by decide +kernel
theorem d_Mod_hearUpdate_50 : decode b_Mod_hearUpdate 50 = .ok (.iconst 1, 1) := by decide +kernel
theorem d_Mod_hearUpdate_51 : decode b_Mod_hearUpdate 51 = .ok (.goto 4, 3) := by decide +kernel
theorem d_Mod_hearUpdate_54 : decode b_Mod_hearUpdate 54 = .ok (.iconst 0, 1) := by decide +kernel
theorem d_Mod_hearUpdate_55 : decode b_Mod_hearUpdate 55 = .ok (.bastore, 1) := by decide +kernel
theorem d_Mod_hearUpdate_56 : decode b_Mod_hearUpdate 56 = .ok (.aload_n 2, 1) := by decide +kernel
theorem d_Mod_hearUpdate_57 : decode b_Mod_hearUpdate 57 = .ok (.iconst 5, 1) := by decide +kernel
theorem d_Mod_hearUpdate_58 : decode b_Mod_hearUpdate 58 = .ok (.iaload, 1) := by decide +kernel
theorem d_Mod_hearUpdate_59 : decode b_Mod_hearUpdate 59 = .ok (.aload_n 0, 1) := by decide +kernel
theorem d_Mod_hearUpdate_60 : decode b_Mod_hearUpdate 60 = .ok (.getfield 62, 3) := by decide +kernel
theorem d_Mod_hearUpdate_63 : decode b_Mod_hearUpdate 63 = .ok (.iload_n 3, 1) := by decide +kernel
theorem d_Mod_hearUpdate_64 : decode b_Mod_hearUpdate 64 = .ok (.iaload, 1) := by decide +kernel
theorem d_Mod_hearUpdate_65 : decode b_Mod_hearUpdate 65 = .ok (.if_icmp .ne 7, 3) := by decide +kernel
theorem d_Mod_hearUpdate_68 : decode b_Mod_hearUpdate 68 = .ok (.iconst 1, 1) := by decide +kernel
theorem d_Mod_hearUpdate_69 : decode b_Mod_hearUpdate 69 = .ok (.goto 4, 3) := by decide +kernel
theorem d_Mod_hearUpdate_72 : decode b_Mod_hearUpdate 72 = .ok (.iconst 0, 1) := by decide +kernel
theorem d_Mod_hearUpdate_73 : decode b_Mod_hearUpdate 73 = .ok (.istore 4, 2) := by decide +kernel
theorem d_Mod_hearUpdate_75 : decode b_Mod_hearUpdate 75 = .ok (.iconst 0, 1) := by decide +kernel
theorem d_Mod_hearUpdate_76 : decode b_Mod_hearUpdate 76 = .ok (.istore 5, 2) := by decide +kernel
theorem d_Mod_hearUpdate_78 : decode b_Mod_hearUpdate 78 = .ok (.aload_n 2, 1) := by decide +kernel
theorem d_Mod_hearUpdate_79 : decode b_Mod_hearUpdate 79 = .ok (.iconst 5, 1) := by decide +kernel
theorem d_Mod_hearUpdate_80 : decode b_Mod_hearUpdate 80 = .ok (.iaload, 1) := by decide +kernel
theorem d_Mod_hearUpdate_81 : decode b_Mod_hearUpdate 81 = .ok (.aload_n 0, 1) := by decide +kernel
theorem d_Mod_hearUpdate_82 : decode b_Mod_hearUpdate 82 = .ok (.getfield 62, 3) := by decide +kernel
theorem d_Mod_hearUpdate_85 : decode b_Mod_hearUpdate 85 = .ok (.iload_n 3, 1) := by decide +kernel
theorem d_Mod_hearUpdate_86 : decode b_Mod_hearUpdate 86 = .ok (.iaload, 1) := by decide +kernel
theorem d_Mod_hearUpdate_87 : decode b_Mod_hearUpdate 87 = .ok (.if_icmp .le 28, 3) := by decide +kernel
theorem d_Mod_hearUpdate_90 : decode b_Mod_hearUpdate 90 = .ok (.aload_n 0, 1) := by decide +kernel
theorem d_Mod_hearUpdate_91 : decode b_Mod_hearUpdate 91 = .ok (.iload_n 1, 1) := by decide +kernel
theorem d_Mod_hearUpdate_92 : decode b_Mod_hearUpdate 92 = .ok (.iload_n 3, 1) := by decide +kernel
theorem d_Mod_hearUpdate_93 : decode b_Mod_hearUpdate 93 = .ok (.aload_n 2, 1) := by decide +kernel
theorem d_Mod_hearUpdate_94 : decode b_Mod_hearUpdate 94 = .ok (.invokevirtual 165, 3) := by decide +kernel
theorem d_Mod_hearUpdate_97 : decode b_Mod_hearUpdate 97 = .ok (.ifCond .eq 18, 3) := by decide +kernel
theorem d_Mod_hearUpdate_100 : decode b_Mod_hearUpdate 100 = .ok (.aload_n 0, 1) := by decide +kernel
theorem d_Mod_hearUpdate_101 : decode b_Mod_hearUpdate 101 = .ok (.getfield 62, 3) := by decide +kernel
theorem d_Mod_hearUpdate_104 : decode b_Mod_hearUpdate 104 = .ok (.iload_n 3, 1) := by decide +kernel
theorem d_Mod_hearUpdate_105 : decode b_Mod_hearUpdate 105 = .ok (.aload_n 2, 1) := by decide +kernel
theorem d_Mod_hearUpdate_106 : decode b_Mod_hearUpdate 106 = .ok (.iconst 5, 1) := by decide +kernel
theorem d_Mod_hearUpdate_107 : decode b_Mod_hearUpdate 107 = .ok (.iaload, 1) := by decide +kernel
theorem d_Mod_hearUpdate_108 : decode b_Mod_hearUpdate 108 = .ok (.iastore, 1) := by decide +kernel
theorem d_Mod_hearUpdate_109 : decode b_Mod_hearUpdate 109 = .ok (.iconst 1, 1) := by decide +kernel
theorem d_Mod_hearUpdate_110 : decode b_Mod_hearUpdate 110 = .ok (.istore 4, 2) := by decide +kernel
theorem d_Mod_hearUpdate_112 : decode b_Mod_hearUpdate 112 = .ok (.iconst 1, 1) := by decide +kernel
theorem d_Mod_hearUpdate_113 : decode b_Mod_hearUpdate 113 = .ok (.istore 5, 2) := by decide +kernel
theorem d_Mod_hearUpdate_115 : decode b_Mod_hearUpdate 115 = .ok (.aload_n 0, 1) := by decide +kernel
theorem d_Mod_hearUpdate_116 : decode b_Mod_hearUpdate 116 = .ok (.getfield 7, 3) := by decide +kernel
theorem d_Mod_hearUpdate_119 : decode b_Mod_hearUpdate 119 = .ok (.iload_n 1, 1) := by decide +kernel
theorem d_Mod_hearUpdate_120 : decode b_Mod_hearUpdate 120 = .ok (.iaload, 1) := by decide +kernel
theorem d_Mod_hearUpdate_121 : decode b_Mod_hearUpdate 121 = .ok (.iconst 1, 1) := by decide +kernel
theorem d_Mod_hearUpdate_122 : decode b_Mod_hearUpdate 122 = .ok (.if_icmp .ne 33, 3) := by decide +kernel
theorem d_Mod_hearUpdate_125 : decode b_Mod_hearUpdate 125 = .ok (.aload_n 0, 1) := by decide +kernel
theorem d_Mod_hearUpdate_126 : decode b_Mod_hearUpdate 126 = .ok (.iload_n 1, 1) := by decide +kernel
theorem d_Mod_hearUpdate_127 : decode b_Mod_hearUpdate 127 = .ok (.invokevirtual 169, 3) := by decide +kernel
theorem d_Mod_hearUpdate_130 : decode b_Mod_hearUpdate 130 = .ok (.ifCond .eq 25, 3) := by decide +kernel
theorem d_Mod_hearUpdate_133 : decode b_Mod_hearUpdate 133 = .ok (.aload_n 0, 1) := by decide +kernel
theorem d_Mod_hearUpdate_134 : decode b_Mod_hearUpdate 134 = .ok (.getfield 7, 3) := by decide +kernel
theorem d_Mod_hearUpdate_137 : decode b_Mod_hearUpdate 137 = .ok (.iload_n 1, 1) := by decide +kernel
theorem d_Mod_hearUpdate_138 : decode b_Mod_hearUpdate 138 = .ok (.iconst 2, 1) := by decide +kernel
theorem d_Mod_hearUpdate_139 : decode b_Mod_hearUpdate 139 = .ok (.iastore, 1) := by decide +kernel
theorem d_Mod_hearUpdate_140 : decode b_Mod_hearUpdate 140 = .ok (.aload_n 0, 1) := by decide +kernel
theorem d_Mod_hearUpdate_141 : decode b_Mod_hearUpdate 141 = .ok (.getfield 19, 3) := by decide +kernel
theorem d_Mod_hearUpdate_144 : decode b_Mod_hearUpdate 144 = .ok (.iload_n 1, 1) := by decide +kernel
theorem d_Mod_hearUpdate_145 : decode b_Mod_hearUpdate 145 = .ok (.aload_n 0, 1) := by decide +kernel
theorem d_Mod_hearUpdate_146 : decode b_Mod_hearUpdate 146 = .ok (.getfield 16, 3) := by decide +kernel
theorem d_Mod_hearUpdate_149 : decode b_Mod_hearUpdate 149 = .ok (.iload_n 1, 1) := by decide +kernel
theorem d_Mod_hearUpdate_150 : decode b_Mod_hearUpdate 150 = .ok (.iaload, 1) := by decide +kernel
theorem d_Mod_hearUpdate_151 : decode b_Mod_hearUpdate 151 = .ok (.iastore, 1) := by decide +kernel
theorem d_Mod_hearUpdate_152 : decode b_Mod_hearUpdate 152 = .ok (.iconst 1, 1) := by decide +kernel
theorem d_Mod_hearUpdate_153 : decode b_Mod_hearUpdate 153 = .ok (.istore 5, 2) := by decide +kernel
theorem d_Mod_hearUpdate_155 : decode b_Mod_hearUpdate 155 = .ok (.iload 5, 2) := by decide +kernel
theorem d_Mod_hearUpdate_157 : decode b_Mod_hearUpdate 157 = .ok (.ifCond .eq 11, 3) := by decide +kernel
theorem d_Mod_hearUpdate_160 : decode b_Mod_hearUpdate 160 = .ok (.aload_n 0, 1) := by decide +kernel
theorem d_Mod_hearUpdate_161 : decode b_Mod_hearUpdate 161 = .ok (.iload_n 1, 1) := by decide +kernel
theorem d_Mod_hearUpdate_162 : decode b_Mod_hearUpdate 162 = .ok (.invokevirtual 147, 3) := by decide +kernel
theorem d_Mod_hearUpdate_165 : decode b_Mod_hearUpdate 165 = .ok (.ifCond .eq 7, 3) := by decide +kernel
theorem d_Mod_hearUpdate_168 : decode b_Mod_hearUpdate 168 = .ok (.iconst 1, 1) := by decide +kernel
theorem d_Mod_hearUpdate_169 : decode b_Mod_hearUpdate 169 = .ok (.goto 4, 3) := by decide +kernel
theorem d_Mod_hearUpdate_172 : decode b_Mod_hearUpdate 172 = .ok (.iconst 0, 1) := by decide +kernel
theorem d_Mod_hearUpdate_173 : decode b_Mod_hearUpdate 173 = .ok (.istore 6, 2) := by decide +kernel
theorem d_Mod_hearUpdate_175 : decode b_Mod_hearUpdate 175 = .ok (.iload 6, 2) := by decide +kernel
theorem d_Mod_hearUpdate_177 : decode b_Mod_hearUpdate 177 = .ok (.ifCond .eq 34, 3) := by decide +kernel
theorem d_Mod_hearUpdate_180 : decode b_Mod_hearUpdate 180 = .ok (.iload 4, 2) := by decide +kernel
theorem d_Mod_hearUpdate_182 : decode b_Mod_hearUpdate 182 = .ok (.ifCond .eq 29, 3) := by decide +kernel
theorem d_Mod_hearUpdate_185 : decode b_Mod_hearUpdate 185 = .ok (.aload_n 0, 1) := by decide +kernel
theorem d_Mod_hearUpdate_186 : decode b_Mod_hearUpdate 186 = .ok (.iload_n 1, 1) := by decide +kernel
theorem d_Mod_hearUpdate_187 : decode b_Mod_hearUpdate 187 = .ok (.aload_n 2, 1) := by decide +kernel
theorem d_Mod_hearUpdate_188 : decode b_Mod_hearUpdate 188 = .ok (.iconst 4, 1) := by decide +kernel
theorem d_Mod_hearUpdate_189 : decode b_Mod_hearUpdate 189 = .ok (.iaload, 1) := by decide +kernel
theorem d_Mod_hearUpdate_190 : decode b_Mod_hearUpdate 190 = .ok (.aload_n 2, 1) := by decide +kernel
theorem d_Mod_hearUpdate_191 : decode b_Mod_hearUpdate 191 = .ok (.iconst 5, 1) := by decide +kernel
theorem d_Mod_hearUpdate_192 : decode b_Mod_hearUpdate 192 = .ok (.iaload, 1) := by decide +kernel
theorem d_Mod_hearUpdate_193 : decode b_Mod_hearUpdate 193 = .ok (.aload_n 2, 1) := by decide +kernel
theorem d_Mod_hearUpdate_194 : decode b_Mod_hearUpdate 194 = .ok (.iconst 3, 1) := by decide +kernel
theorem d_Mod_hearUpdate_195 : decode b_Mod_hearUpdate 195 = .ok (.iaload, 1) := by decide +kernel
theorem d_Mod_hearUpdate_196 : decode b_Mod_hearUpdate 196 = .ok (.iconst 2, 1) := by decide +kernel
theorem d_Mod_hearUpdate_197 : decode b_Mod_hearUpdate 197 = .ok (.if_icmp .ne 10, 3) := by decide +kernel
theorem d_Mod_hearUpdate_200 : decode b_Mod_hearUpdate 200 = .ok (.aload_n 2, 1) := by decide +kernel
theorem d_Mod_hearUpdate_201 : decode b_Mod_hearUpdate 201 = .ok (.bipush 6, 2) := by decide +kernel
theorem d_Mod_hearUpdate_203 : decode b_Mod_hearUpdate 203 = .ok (.iaload, 1) := by decide +kernel
theorem d_Mod_hearUpdate_204 : decode b_Mod_hearUpdate 204 = .ok (.goto 4, 3) := by decide +kernel
theorem d_Mod_hearUpdate_207 : decode b_Mod_hearUpdate 207 = .ok (.iconst 0, 1) := by decide +kernel
theorem d_Mod_hearUpdate_208 : decode b_Mod_hearUpdate 208 = .ok (.invokevirtual 172, 3) := by decide +kernel
theorem d_Mod_hearUpdate_211 : decode b_Mod_hearUpdate 211 = .ok (.return_, 1) := by decide +kernel
set_option maxRecDepth 100000 in
set_option maxHeartbeats 4000000 in
theorem c_Mod_hearUpdate (l : Launch) (K : Kx) (V : Vx) (A B C D : MI) (P : MP) (ms : MSt K V P) (s : Nat) (hs : s < 2) (n : Nat) (ld sk : Int32) (hf : MF C n ld sk) (a : Nat) (ha : a < n) (N : List Msg) (hm : MN D N) (x : Msg) (hrd : ∀ w, w < 14 → D 75 w = x w) (hx4 : x 4 = nI a) (hk3 : x 3 = 0 ∨ x 3 = 1 ∨ x 3 = 2 ∨ x 3 = 3 ∨ x 3 = 4) (h11 : x 11 = 0 ∨ x 11 = 1) (h0 : ¬ C 0 s = 0) (z0 : Zc C) : Ct l K md_Mod_hearUpdate (3, 75) 0 0 [.ref (K.ad 6 0), .int (nI s), .ref (K.aad 38)] V (bk4 A B C D) P (MQ_ V A B P none (hupA C (32 * s + a) s n (clk C s) x) D (hupN C s a n (clk C s) x N)) := by
  refine ct_of [(0, .ref (K.ad 6 0)), (1, .int (nI s)), (2, .ref (K.aad 38))] (by decide) (Nat.le_of_ble_eq_true rfl) (ca_r (ca_i (ca_r ca_n))) rfl ?_
  intro X hl hX
  have h : OkX X b_Mod_hearUpdate R_Mod K := hX.1
  have hN : X.nL = 7 := hX.2.1
  have hmv := ms.1
  have hn32 := hf.1
  have hr : 32 * s + a < 64 := by omega
  have hgo : C 20 (32 * s + a) < x 7 → hupA C (32 * s + a) s n (clk C s) x = uA4 (uA2 (uA1 C (32 * s + a) s x) (32 * s + a) s (clk C s) x) s n (uTk (uA1 C (32 * s + a) s x) (32 * s + a) s (clk C s) x).1 := fun q => by unfold hupA; rw [if_pos q]
  have hgN : C 20 (32 * s + a) < x 7 → hupN C s a n (clk C s) x N = uN (hupA C (32 * s + a) s n (clk C s) x) s a (b01 (x 5 = (uA1 C (32 * s + a) s x) 19 (32 * s + a))) (uTk (uA1 C (32 * s + a) s x) (32 * s + a) s (clk C s) x).1 x N := fun q => by unfold hupN; rw [if_pos q]
  have hc0 : (uA2 (uA1 C (32 * s + a) s x) (32 * s + a) s (clk C s) x) 0 s = C 0 s := L0_uA2 (L0_uA1 (L0.refl C)) 0 s (by decide)
  have hf2 : MF (uA2 (uA1 C (32 * s + a) s x) (32 * s + a) s (clk C s) x) n ld sk := MF_zk hf (ZK_uA2 (ZK_uA1 (ZK.refl C)))
  have h175 : ∀ (C4 : MI) (v4 v6 : Int32), hupA C (32 * s + a) s n (clk C s) x = C4 → (hupN C s a n (clk C s) x N = if ¬ v6 = 0 ∧ ¬ v4 = 0 then netput (m_ack C4 s a (x 5) (if x 3 = 2 then x 6 else 0)) N else N) → J X K V (bk4 A B C4 D) P 0 0 175 [(0, .ref (K.ad 6 0)), (1, .int (nI s)), (2, .ref (K.aad 38)), (3, .int (nI (32 * s + a))), (4, .int v4), (6, .int v6)] [] := by
    intro C4 v4 v6 e1 e2
    refine j_iload h d_Mod_hearUpdate_175 rfl ?_
    refine j_if_eq (tgt := 211) h d_Mod_hearUpdate_177 (by decide) (fun c1 => ?_) (fun c1 => ?_)
    · exact j_vret hX d_Mod_hearUpdate_211 rfl (Nat.le_refl _) (Nat.le_refl _) ⟨rfl, rfl, rfl, _, by rw [e1], by first | exact hq3 | exact DK.refl _, by rw [e2]; first | (rw [if_pos ⟨by assumption, by assumption⟩]; exact hm3) | (rw [if_neg (fun q => q.1 (by assumption))]; exact hm) | (rw [if_neg (fun q => q.2 (by assumption))]; exact hm)⟩
    · refine j_iload h d_Mod_hearUpdate_180 rfl ?_
      refine j_if_eq (tgt := 211) h d_Mod_hearUpdate_182 (by decide) (fun c2 => ?_) (fun c2 => ?_)
      · exact j_vret hX d_Mod_hearUpdate_211 rfl (Nat.le_refl _) (Nat.le_refl _) ⟨rfl, rfl, rfl, _, by rw [e1], by first | exact hq3 | exact DK.refl _, by rw [e2]; first | (rw [if_pos ⟨by assumption, by assumption⟩]; exact hm3) | (rw [if_neg (fun q => q.1 (by assumption))]; exact hm) | (rw [if_neg (fun q => q.2 (by assumption))]; exact hm)⟩
      · refine j_aload_n h d_Mod_hearUpdate_185 rfl ?_
        refine j_iload_n h d_Mod_hearUpdate_186 rfl ?_
        refine j_aload_n h d_Mod_hearUpdate_187 rfl ?_
        refine j_iconst (v := 4) h d_Mod_hearUpdate_188 (by decide) ?_
        refine m_iald3e (a := 38) (L := 14) (j := 4) (v := nI a) h ms d_Mod_hearUpdate_189 (by decide) rfl (by decide) rfl rfl (by omega) ((hrd 4 (by decide)).trans hx4) ?_
        refine j_aload_n h d_Mod_hearUpdate_190 rfl ?_
        refine j_iconst (v := 5) h d_Mod_hearUpdate_191 (by decide) ?_
        refine m_iald3e (a := 38) (L := 14) (j := 5) (v := x 5) h ms d_Mod_hearUpdate_192 (by decide) rfl (by decide) rfl rfl (by omega) (hrd 5 (by decide)) ?_
        refine j_aload_n h d_Mod_hearUpdate_193 rfl ?_
        refine j_iconst (v := 3) h d_Mod_hearUpdate_194 (by decide) ?_
        refine m_iald3e (a := 38) (L := 14) (j := 3) (v := x 3) h ms d_Mod_hearUpdate_195 (by decide) rfl (by decide) rfl rfl (by omega) (hrd 3 (by decide)) ?_
        refine j_iconst (v := 2) h d_Mod_hearUpdate_196 (by decide) ?_
        refine j_ic_ne (tgt := 207) h d_Mod_hearUpdate_197 (by decide) (fun c3 => ?_) (fun c3 => ?_)
        · refine j_iconst (v := 0) h d_Mod_hearUpdate_207 (by decide) ?_
          refine j_int (v' := if x 3 = 2 then x 6 else 0) (by clear hX h hl e1 e2 hgo hgN hc0 hf2; first | (simp_all; done) | grind) ?_
          refine j_callV h (c_Mod_sendAck _ _ _ _ _ _ _ _ ms _ hm _ hs _ _ ha hn32 _ _) d_Mod_hearUpdate_208 ml_Mod_172 mv_Mod_sendAck (by assumption) ⟨rfl, rfl⟩ rfl rfl (Nat.le_of_ble_eq_true rfl) (hR_of hX (by decide) (by decide)) (hf_of hX (by decide) (by decide)) ?_
          rintro V3 _ _ P3 ⟨rfl, rfl, rfl, D3, rfl, hq3, hm3⟩
          exact j_vret hX d_Mod_hearUpdate_211 rfl (Nat.le_refl _) (Nat.le_refl _) ⟨rfl, rfl, rfl, _, by rw [e1], by first | exact hq3 | exact DK.refl _, by rw [e2]; first | (rw [if_pos ⟨by assumption, by assumption⟩]; exact hm3) | (rw [if_neg (fun q => q.1 (by assumption))]; exact hm) | (rw [if_neg (fun q => q.2 (by assumption))]; exact hm)⟩
        · refine j_aload_n h d_Mod_hearUpdate_200 rfl ?_
          refine j_bipush (v := 6) h d_Mod_hearUpdate_201 (by decide) ?_
          refine m_iald3e (a := 38) (L := 14) (j := 6) (v := x 6) h ms d_Mod_hearUpdate_203 (by decide) rfl (by decide) rfl rfl (by omega) (hrd 6 (by decide)) ?_
          refine j_goto (tgt := 208) h d_Mod_hearUpdate_204 (by decide) ?_
          refine j_int (v' := if x 3 = 2 then x 6 else 0) (by clear hX h hl e1 e2 hgo hgN hc0 hf2; first | (simp_all; done) | grind) ?_
          refine j_callV h (c_Mod_sendAck _ _ _ _ _ _ _ _ ms _ hm _ hs _ _ ha hn32 _ _) d_Mod_hearUpdate_208 ml_Mod_172 mv_Mod_sendAck (by assumption) ⟨rfl, rfl⟩ rfl rfl (Nat.le_of_ble_eq_true rfl) (hR_of hX (by decide) (by decide)) (hf_of hX (by decide) (by decide)) ?_
          rintro V3 _ _ P3 ⟨rfl, rfl, rfl, D3, rfl, hq3, hm3⟩
          exact j_vret hX d_Mod_hearUpdate_211 rfl (Nat.le_refl _) (Nat.le_refl _) ⟨rfl, rfl, rfl, _, by rw [e1], by first | exact hq3 | exact DK.refl _, by rw [e2]; first | (rw [if_pos ⟨by assumption, by assumption⟩]; exact hm3) | (rw [if_neg (fun q => q.1 (by assumption))]; exact hm) | (rw [if_neg (fun q => q.2 (by assumption))]; exact hm)⟩
  have h155 : ∀ (C3 : MI) (v4 v5 : Int32), C 20 (32 * s + a) < x 7 → uA3 (uA2 (uA1 C (32 * s + a) s x) (32 * s + a) s (clk C s) x) s n = C3 → (v4 = 0 ↔ ¬ (¬ (uTk (uA1 C (32 * s + a) s x) (32 * s + a) s (clk C s) x).1 = 0 ∨ x 5 = (uA1 C (32 * s + a) s x) 19 (32 * s + a))) → (v5 = 0 ↔ ¬ (¬ (uTk (uA1 C (32 * s + a) s x) (32 * s + a) s (clk C s) x).1 = 0 ∨ ((uA2 (uA1 C (32 * s + a) s x) (32 * s + a) s (clk C s) x) 0 s = 1 ∧ ¬ allF (uA2 (uA1 C (32 * s + a) s x) (32 * s + a) s (clk C s) x) s n 0 = 0))) → J X K V (bk4 A B C3 D) P 0 0 155 [(0, .ref (K.ad 6 0)), (1, .int (nI s)), (2, .ref (K.aad 38)), (3, .int (nI (32 * s + a))), (4, .int v4), (5, .int v5)] [] := by
    intro C3 v4 v5 hlt e3 e4 e5
    have hgo := hgo hlt
    have hgN := hgN hlt
    have hN4 : ∀ (C4 : MI) (v6 : Int32), hupA C (32 * s + a) s n (clk C s) x = C4 → (¬ C4 0 s = 0 ↔ ¬ v6 = 0) → (hupN C s a n (clk C s) x N = if ¬ v6 = 0 ∧ ¬ v4 = 0 then netput (m_ack C4 s a (x 5) (if x 3 = 2 then x 6 else 0)) N else N) := by
      intro C4 v6 q1 q2
      rw [hgN, q1]
      unfold uN
      by_cases k1 : C4 0 s = 0
      · rw [if_neg (fun q => q.2 k1), if_neg (fun q => q2.mpr q.1 k1)]
      · by_cases k2 : v4 = 0
        · rw [if_neg (fun q => (e4.mp k2) (q.1.elim Or.inl (fun p => Or.inr (b01_n0 p)))), if_neg (fun q => q.2 k2)]
        · have p := Classical.byContradiction fun p => k2 (e4.mpr p)
          have p9 : ¬ (uTk (uA1 C (32 * s + a) s x) (32 * s + a) s (clk C s) x).1 = 0 ∨ ¬ b01 (x 5 = (uA1 C (32 * s + a) s x) 19 (32 * s + a)) = 0 := p.elim Or.inl (fun p => Or.inr (by rw [b01_t p]; decide))
          rw [if_pos (And.intro p9 k1), if_pos (And.intro (q2.mp k1) k2)]
    refine j_iload h d_Mod_hearUpdate_155 rfl ?_
    refine j_if_eq (tgt := 168) h d_Mod_hearUpdate_157 (by decide) (fun c5 => ?_) (fun c5 => ?_)
    · have k5 := e5.mp c5
      have e9 : hupA C (32 * s + a) s n (clk C s) x = C3 := by rw [hgo]; unfold uA4; rw [if_neg k5, e3]
      have e8 : ¬ C3 0 s = 0 := by rw [← e3]; unfold uA3; rw [if_neg (fun q => k5 (Or.inr q)), hc0]; exact h0
      refine j_iconst (v := 1) h d_Mod_hearUpdate_168 (by decide) ?_
      refine j_goto (tgt := 173) h d_Mod_hearUpdate_169 (by decide) ?_
      refine j_istore h d_Mod_hearUpdate_173 (Nat.lt_of_lt_of_eq (m := 7) (by decide) hN.symm) ?_
      refine j_lv (lv' := [(0, .ref (K.ad 6 0)), (1, .int (nI s)), (2, .ref (K.aad 38)), (3, .int (nI (32 * s + a))), (4, .int v4), (6, .int _)]) (lvs rfl (lvs rfl (lvs rfl (lvs rfl (lvs rfl (lvs rfl lvs0)))))) ?_
      exact h175 _ _ _ e9 (hN4 _ _ e9 ⟨fun _ => by decide, fun _ => e8⟩)
    · have e9 : hupA C (32 * s + a) s n (clk C s) x = wr C3 s := by rw [hgo]; unfold uA4; rw [if_pos (Classical.byContradiction fun q => c5 (e5.mpr q)), e3]
      refine j_aload_n h d_Mod_hearUpdate_160 rfl ?_
      refine j_iload_n h d_Mod_hearUpdate_161 rfl ?_
      refine j_callV h (c_Mod_writes _ _ _ _ _ _ _ _ ms _ hs) d_Mod_hearUpdate_162 ml_Mod_147 mv_Mod_writes (by assumption) ⟨rfl, rfl⟩ rfl rfl (Nat.le_of_ble_eq_true rfl) (hR_of hX (by decide) (by decide)) (hf_of hX (by decide) (by decide)) ?_
      rintro _ _ _ _ ⟨rfl, rfl, rfl, rfl⟩
      refine j_if_eq (tgt := 172) h d_Mod_hearUpdate_165 (by decide) (fun c1 => ?_) (fun c1 => ?_)
      · refine j_iconst (v := 0) h d_Mod_hearUpdate_172 (by decide) ?_
        refine j_istore h d_Mod_hearUpdate_173 (Nat.lt_of_lt_of_eq (m := 7) (by decide) hN.symm) ?_
        refine j_lv (lv' := [(0, .ref (K.ad 6 0)), (1, .int (nI s)), (2, .ref (K.aad 38)), (3, .int (nI (32 * s + a))), (4, .int v4), (6, .int _)]) (lvs rfl (lvs rfl (lvs rfl (lvs rfl (lvs rfl (lvs rfl lvs0)))))) ?_
        exact h175 _ _ _ e9 (hN4 _ _ e9 (by clear hX h hl h175 hN4 hgo hgN hf2 e3 e4 e5 e9; first | (simp_all [b01_0]; done) | grind [b01_0]))
      · refine j_iconst (v := 1) h d_Mod_hearUpdate_168 (by decide) ?_
        refine j_goto (tgt := 173) h d_Mod_hearUpdate_169 (by decide) ?_
        refine j_istore h d_Mod_hearUpdate_173 (Nat.lt_of_lt_of_eq (m := 7) (by decide) hN.symm) ?_
        refine j_lv (lv' := [(0, .ref (K.ad 6 0)), (1, .int (nI s)), (2, .ref (K.aad 38)), (3, .int (nI (32 * s + a))), (4, .int v4), (6, .int _)]) (lvs rfl (lvs rfl (lvs rfl (lvs rfl (lvs rfl (lvs rfl lvs0)))))) ?_
        exact h175 _ _ _ e9 (hN4 _ _ e9 (by clear hX h hl h175 hN4 hgo hgN hf2 e3 e4 e5 e9; first | (simp_all [b01_0]; done) | grind [b01_0]))
  have h115 : ∀ (v4 v5 : Int32), C 20 (32 * s + a) < x 7 → (v4 = 0 ↔ ¬ (¬ (uTk (uA1 C (32 * s + a) s x) (32 * s + a) s (clk C s) x).1 = 0 ∨ x 5 = (uA1 C (32 * s + a) s x) 19 (32 * s + a))) → (v5 = 0 ↔ (uTk (uA1 C (32 * s + a) s x) (32 * s + a) s (clk C s) x).1 = 0) → J X K V (bk4 A B (uA2 (uA1 C (32 * s + a) s x) (32 * s + a) s (clk C s) x) D) P 0 0 115 [(0, .ref (K.ad 6 0)), (1, .int (nI s)), (2, .ref (K.aad 38)), (3, .int (nI (32 * s + a))), (4, .int v4), (5, .int v5)] [] := by
    intro v4 v5 hlt e4 e5
    have hW := fun (C3 : MI) (v5 : Int32) q => h155 C3 v4 v5 hlt q e4
    clear h155 h175 hgo hgN hc0
    generalize hU : (uTk (uA1 C (32 * s + a) s x) (32 * s + a) s (clk C s) x).1 = u1 at *
    generalize hC2 : (uA2 (uA1 C (32 * s + a) s x) (32 * s + a) s (clk C s) x) = G at *
    clear hU hC2
    refine j_aload_n h d_Mod_hearUpdate_115 rfl ?_
    refine j_getR h d_Mod_hearUpdate_116 fl_Mod_7 rfl (by assumption) (mP ms (a := 10) (by decide)) ?_
    refine j_iload_n h d_Mod_hearUpdate_119 rfl ?_
    refine m_iald2 (a := 10) (L := 2) (j := s) h ms d_Mod_hearUpdate_120 (by decide) rfl (by decide) rfl rfl (by omega) ?_
    refine j_iconst (v := 1) h d_Mod_hearUpdate_121 (by decide) ?_
    refine j_ic_ne (tgt := 155) h d_Mod_hearUpdate_122 (by decide) (fun c1 => ?_) (fun c1 => ?_)
    · refine j_lv (lv' := [(0, .ref (K.ad 6 0)), (1, .int (nI s)), (2, .ref (K.aad 38)), (3, .int (nI (32 * s + a))), (4, .int v4), (5, .int _)]) (lvs rfl (lvs rfl (lvs rfl (lvs rfl (lvs rfl (lvs rfl lvs0)))))) ?_
      exact hW _ _ (by clear hX h hl hW; unfold uA3; first | (simp_all [up_rd]; done) | grind [up_rd]) (by clear hX h hl hW; first | (simp_all; done) | grind)
    · refine j_aload_n h d_Mod_hearUpdate_125 rfl ?_
      refine j_iload_n h d_Mod_hearUpdate_126 rfl ?_
      refine j_callV h (c_Mod_areFresh _ _ _ _ _ _ _ _ ms _ hs _ _ _ hf2) d_Mod_hearUpdate_127 ml_Mod_169 mv_Mod_areFresh (by assumption) ⟨rfl, rfl⟩ rfl rfl (Nat.le_of_ble_eq_true rfl) (hR_of hX (by decide) (by decide)) (hf_of hX (by decide) (by decide)) ?_
      rintro _ _ _ _ ⟨rfl, rfl, rfl, rfl⟩
      refine j_if_eq (tgt := 155) h d_Mod_hearUpdate_130 (by decide) (fun c2 => ?_) (fun c2 => ?_)
      · refine j_lv (lv' := [(0, .ref (K.ad 6 0)), (1, .int (nI s)), (2, .ref (K.aad 38)), (3, .int (nI (32 * s + a))), (4, .int v4), (5, .int _)]) (lvs rfl (lvs rfl (lvs rfl (lvs rfl (lvs rfl (lvs rfl lvs0)))))) ?_
        exact hW _ _ (by clear hX h hl hW; unfold uA3; first | (simp_all [up_rd]; done) | grind [up_rd]) (by clear hX h hl hW; first | (simp_all; done) | grind)
      · refine j_aload_n h d_Mod_hearUpdate_133 rfl ?_
        refine j_getR h d_Mod_hearUpdate_134 fl_Mod_7 rfl (by assumption) (mP ms (a := 10) (by decide)) ?_
        refine j_iload_n h d_Mod_hearUpdate_137 rfl ?_
        refine j_iconst (v := 2) h d_Mod_hearUpdate_138 (by decide) ?_
        refine m_iast2 (a := 10) (L := 2) (j := s) h ms d_Mod_hearUpdate_139 (by decide) rfl (by decide) rfl rfl (by omega) ?_
        refine j_aload_n h d_Mod_hearUpdate_140 rfl ?_
        refine j_getR h d_Mod_hearUpdate_141 fl_Mod_19 rfl (by assumption) (mP ms (a := 13) (by decide)) ?_
        refine j_iload_n h d_Mod_hearUpdate_144 rfl ?_
        refine j_aload_n h d_Mod_hearUpdate_145 rfl ?_
        refine j_getR h d_Mod_hearUpdate_146 fl_Mod_16 rfl (by assumption) (mP ms (a := 12) (by decide)) ?_
        refine j_iload_n h d_Mod_hearUpdate_149 rfl ?_
        refine m_iald2 (a := 12) (L := 2) (j := s) h ms d_Mod_hearUpdate_150 (by decide) rfl (by decide) rfl rfl (by omega) ?_
        refine m_iast2 (a := 13) (L := 2) (j := s) h ms d_Mod_hearUpdate_151 (by decide) rfl (by decide) rfl rfl (by omega) ?_
        refine j_iconst (v := 1) h d_Mod_hearUpdate_152 (by decide) ?_
        refine j_istore h d_Mod_hearUpdate_153 (Nat.lt_of_lt_of_eq (m := 7) (by decide) hN.symm) ?_
        refine j_lv (lv' := [(0, .ref (K.ad 6 0)), (1, .int (nI s)), (2, .ref (K.aad 38)), (3, .int (nI (32 * s + a))), (4, .int v4), (5, .int _)]) (lvs rfl (lvs rfl (lvs rfl (lvs rfl (lvs rfl (lvs rfl lvs0)))))) ?_
        exact hW _ _ (by clear hX h hl hW; unfold uA3; first | (simp_all [up_rd]; done) | grind [up_rd]) (by clear hX h hl hW; first | (simp_all; done) | grind)
  have h56 : C 20 (32 * s + a) < x 7 → J X K V (bk4 A B (uA1 C (32 * s + a) s x) D) P 0 0 56 [(0, .ref (K.ad 6 0)), (1, .int (nI s)), (2, .ref (K.aad 38)), (3, .int (nI (32 * s + a)))] [] := by
    intro hlt
    have hW := fun (v4 v5 : Int32) => h115 v4 v5 hlt
    clear h155 h175 h115 hgo hgN hc0 hf2
    have ek : clk (uA1 C (32 * s + a) s x) s = clk C s := by unfold clk; rw [L0_uA1 (L0.refl C) 1 s (by decide), (ZK_uA1 (ZK.refl C)).2 40 0 (by decide) (by decide)]
    rw [← ek] at hW
    clear ek
    generalize (uA1 C (32 * s + a) s x) = G at *
    refine j_aload_n h d_Mod_hearUpdate_56 rfl ?_
    refine j_iconst (v := 5) h d_Mod_hearUpdate_57 (by decide) ?_
    refine m_iald3e (a := 38) (L := 14) (j := 5) (v := x 5) h ms d_Mod_hearUpdate_58 (by decide) rfl (by decide) rfl rfl (by omega) (hrd 5 (by decide)) ?_
    refine j_aload_n h d_Mod_hearUpdate_59 rfl ?_
    refine j_getR h d_Mod_hearUpdate_60 fl_Mod_62 rfl (by assumption) (mP ms (a := 27) (by decide)) ?_
    refine j_iload_n h d_Mod_hearUpdate_63 rfl ?_
    refine m_iald2 (a := 27) (L := 64) (j := (32 * s + a)) h ms d_Mod_hearUpdate_64 (by decide) rfl (by decide) rfl rfl (by omega) ?_
    refine j_ic_ne (tgt := 72) h d_Mod_hearUpdate_65 (by decide) (fun c1 => ?_) (fun c1 => ?_)
    · refine j_iconst (v := 0) h d_Mod_hearUpdate_72 (by decide) ?_
      refine j_istore h d_Mod_hearUpdate_73 (Nat.lt_of_lt_of_eq (m := 7) (by decide) hN.symm) ?_
      refine j_iconst (v := 0) h d_Mod_hearUpdate_75 (by decide) ?_
      refine j_istore h d_Mod_hearUpdate_76 (Nat.lt_of_lt_of_eq (m := 7) (by decide) hN.symm) ?_
      refine j_aload_n h d_Mod_hearUpdate_78 rfl ?_
      refine j_iconst (v := 5) h d_Mod_hearUpdate_79 (by decide) ?_
      refine m_iald3e (a := 38) (L := 14) (j := 5) (v := x 5) h ms d_Mod_hearUpdate_80 (by decide) rfl (by decide) rfl rfl (by omega) (hrd 5 (by decide)) ?_
      refine j_aload_n h d_Mod_hearUpdate_81 rfl ?_
      refine j_getR h d_Mod_hearUpdate_82 fl_Mod_62 rfl (by assumption) (mP ms (a := 27) (by decide)) ?_
      refine j_iload_n h d_Mod_hearUpdate_85 rfl ?_
      refine m_iald2 (a := 27) (L := 64) (j := (32 * s + a)) h ms d_Mod_hearUpdate_86 (by decide) rfl (by decide) rfl rfl (by omega) ?_
      refine j_ic_le (tgt := 115) h d_Mod_hearUpdate_87 (by decide) (fun c2 => ?_) (fun c2 => ?_)
      · refine j_lv (lv' := [(0, .ref (K.ad 6 0)), (1, .int (nI s)), (2, .ref (K.aad 38)), (3, .int (nI (32 * s + a))), (4, .int _), (5, .int _)]) (lvs rfl (lvs rfl (lvs rfl (lvs rfl (lvs rfl (lvs rfl lvs0)))))) ?_
        first
          | (have q := uA2_n (t := clk G s) (s := s) (x := x) (Int32.not_lt.mpr (show x 5 ≤ G 19 (32 * s + a) by assumption)); rw [q.1, q.2] at hW; exact hW _ _ (by clear hX h hl hW; first | (simp_all; done) | grind) (by clear hX h hl hW; first | (simp_all; done) | grind))
          | (have q := uA2_0 (t := clk G s) (x := x) (Int32.not_le.mp (show ¬ x 5 ≤ G 19 (32 * s + a) by assumption)) (by assumption); rw [q.1, q.2] at hW; exact hW _ _ (by clear hX h hl hW; first | (simp_all; done) | grind) (by clear hX h hl hW; first | (simp_all; done) | grind))
          | (have q := uA2_1 (t := clk G s) (x := x) (Int32.not_le.mp (show ¬ x 5 ≤ G 19 (32 * s + a) by assumption)) (by assumption); rw [q.1, q.2] at hW; exact hW _ _ (by clear hX h hl hW; first | (simp_all; done) | grind) (by clear hX h hl hW; first | (simp_all; done) | grind))
      · refine j_aload_n h d_Mod_hearUpdate_90 rfl ?_
        refine j_iload_n h d_Mod_hearUpdate_91 rfl ?_
        refine j_iload_n h d_Mod_hearUpdate_92 rfl ?_
        refine j_aload_n h d_Mod_hearUpdate_93 rfl ?_
        refine j_callV h (c_Mod_takes _ _ _ _ _ _ _ _ ms _ hs _ hr _ hrd hk3 h11) d_Mod_hearUpdate_94 ml_Mod_165 mv_Mod_takes (by assumption) ⟨rfl, rfl⟩ rfl rfl (Nat.le_of_ble_eq_true rfl) (hR_of hX (by decide) (by decide)) (hf_of hX (by decide) (by decide)) ?_
        rintro _ _ _ _ ⟨rfl, rfl, rfl, rfl⟩
        refine j_if_eq (tgt := 115) h d_Mod_hearUpdate_97 (by decide) (fun c3 => ?_) (fun c3 => ?_)
        · refine j_lv (lv' := [(0, .ref (K.ad 6 0)), (1, .int (nI s)), (2, .ref (K.aad 38)), (3, .int (nI (32 * s + a))), (4, .int _), (5, .int _)]) (lvs rfl (lvs rfl (lvs rfl (lvs rfl (lvs rfl (lvs rfl lvs0)))))) ?_
          first
            | (have q := uA2_n (t := clk G s) (s := s) (x := x) (Int32.not_lt.mpr (show x 5 ≤ G 19 (32 * s + a) by assumption)); rw [q.1, q.2] at hW; exact hW _ _ (by clear hX h hl hW; first | (simp_all; done) | grind) (by clear hX h hl hW; first | (simp_all; done) | grind))
            | (have q := uA2_0 (t := clk G s) (x := x) (Int32.not_le.mp (show ¬ x 5 ≤ G 19 (32 * s + a) by assumption)) (by assumption); rw [q.1, q.2] at hW; exact hW _ _ (by clear hX h hl hW; first | (simp_all; done) | grind) (by clear hX h hl hW; first | (simp_all; done) | grind))
            | (have q := uA2_1 (t := clk G s) (x := x) (Int32.not_le.mp (show ¬ x 5 ≤ G 19 (32 * s + a) by assumption)) (by assumption); rw [q.1, q.2] at hW; exact hW _ _ (by clear hX h hl hW; first | (simp_all; done) | grind) (by clear hX h hl hW; first | (simp_all; done) | grind))
        · refine j_aload_n h d_Mod_hearUpdate_100 rfl ?_
          refine j_getR h d_Mod_hearUpdate_101 fl_Mod_62 rfl (by assumption) (mP ms (a := 27) (by decide)) ?_
          refine j_iload_n h d_Mod_hearUpdate_104 rfl ?_
          refine j_aload_n h d_Mod_hearUpdate_105 rfl ?_
          refine j_iconst (v := 5) h d_Mod_hearUpdate_106 (by decide) ?_
          refine m_iald3e (a := 38) (L := 14) (j := 5) (v := x 5) h ms d_Mod_hearUpdate_107 (by decide) rfl (by decide) rfl rfl (by omega) (hrd 5 (by decide)) ?_
          refine m_iast2 (a := 27) (L := 64) (j := (32 * s + a)) h ms d_Mod_hearUpdate_108 (by decide) rfl (by decide) rfl rfl (by omega) ?_
          refine j_iconst (v := 1) h d_Mod_hearUpdate_109 (by decide) ?_
          refine j_istore h d_Mod_hearUpdate_110 (Nat.lt_of_lt_of_eq (m := 7) (by decide) hN.symm) ?_
          refine j_iconst (v := 1) h d_Mod_hearUpdate_112 (by decide) ?_
          refine j_istore h d_Mod_hearUpdate_113 (Nat.lt_of_lt_of_eq (m := 7) (by decide) hN.symm) ?_
          refine j_lv (lv' := [(0, .ref (K.ad 6 0)), (1, .int (nI s)), (2, .ref (K.aad 38)), (3, .int (nI (32 * s + a))), (4, .int _), (5, .int _)]) (lvs rfl (lvs rfl (lvs rfl (lvs rfl (lvs rfl (lvs rfl lvs0)))))) ?_
          first
            | (have q := uA2_n (t := clk G s) (s := s) (x := x) (Int32.not_lt.mpr (show x 5 ≤ G 19 (32 * s + a) by assumption)); rw [q.1, q.2] at hW; exact hW _ _ (by clear hX h hl hW; first | (simp_all; done) | grind) (by clear hX h hl hW; first | (simp_all; done) | grind))
            | (have q := uA2_0 (t := clk G s) (x := x) (Int32.not_le.mp (show ¬ x 5 ≤ G 19 (32 * s + a) by assumption)) (by assumption); rw [q.1, q.2] at hW; exact hW _ _ (by clear hX h hl hW; first | (simp_all; done) | grind) (by clear hX h hl hW; first | (simp_all; done) | grind))
            | (have q := uA2_1 (t := clk G s) (x := x) (Int32.not_le.mp (show ¬ x 5 ≤ G 19 (32 * s + a) by assumption)) (by assumption); rw [q.1, q.2] at hW; exact hW _ _ (by clear hX h hl hW; first | (simp_all; done) | grind) (by clear hX h hl hW; first | (simp_all; done) | grind))
    · refine j_iconst (v := 1) h d_Mod_hearUpdate_68 (by decide) ?_
      refine j_goto (tgt := 73) h d_Mod_hearUpdate_69 (by decide) ?_
      refine j_istore h d_Mod_hearUpdate_73 (Nat.lt_of_lt_of_eq (m := 7) (by decide) hN.symm) ?_
      refine j_iconst (v := 0) h d_Mod_hearUpdate_75 (by decide) ?_
      refine j_istore h d_Mod_hearUpdate_76 (Nat.lt_of_lt_of_eq (m := 7) (by decide) hN.symm) ?_
      refine j_aload_n h d_Mod_hearUpdate_78 rfl ?_
      refine j_iconst (v := 5) h d_Mod_hearUpdate_79 (by decide) ?_
      refine m_iald3e (a := 38) (L := 14) (j := 5) (v := x 5) h ms d_Mod_hearUpdate_80 (by decide) rfl (by decide) rfl rfl (by omega) (hrd 5 (by decide)) ?_
      refine j_aload_n h d_Mod_hearUpdate_81 rfl ?_
      refine j_getR h d_Mod_hearUpdate_82 fl_Mod_62 rfl (by assumption) (mP ms (a := 27) (by decide)) ?_
      refine j_iload_n h d_Mod_hearUpdate_85 rfl ?_
      refine m_iald2 (a := 27) (L := 64) (j := (32 * s + a)) h ms d_Mod_hearUpdate_86 (by decide) rfl (by decide) rfl rfl (by omega) ?_
      refine j_ic_le (tgt := 115) h d_Mod_hearUpdate_87 (by decide) (fun c4 => ?_) (fun c4 => ?_)
      · refine j_lv (lv' := [(0, .ref (K.ad 6 0)), (1, .int (nI s)), (2, .ref (K.aad 38)), (3, .int (nI (32 * s + a))), (4, .int _), (5, .int _)]) (lvs rfl (lvs rfl (lvs rfl (lvs rfl (lvs rfl (lvs rfl lvs0)))))) ?_
        first
          | (have q := uA2_n (t := clk G s) (s := s) (x := x) (Int32.not_lt.mpr (show x 5 ≤ G 19 (32 * s + a) by assumption)); rw [q.1, q.2] at hW; exact hW _ _ (by clear hX h hl hW; first | (simp_all; done) | grind) (by clear hX h hl hW; first | (simp_all; done) | grind))
          | (have q := uA2_0 (t := clk G s) (x := x) (Int32.not_le.mp (show ¬ x 5 ≤ G 19 (32 * s + a) by assumption)) (by assumption); rw [q.1, q.2] at hW; exact hW _ _ (by clear hX h hl hW; first | (simp_all; done) | grind) (by clear hX h hl hW; first | (simp_all; done) | grind))
          | (have q := uA2_1 (t := clk G s) (x := x) (Int32.not_le.mp (show ¬ x 5 ≤ G 19 (32 * s + a) by assumption)) (by assumption); rw [q.1, q.2] at hW; exact hW _ _ (by clear hX h hl hW; first | (simp_all; done) | grind) (by clear hX h hl hW; first | (simp_all; done) | grind))
      · refine j_aload_n h d_Mod_hearUpdate_90 rfl ?_
        refine j_iload_n h d_Mod_hearUpdate_91 rfl ?_
        refine j_iload_n h d_Mod_hearUpdate_92 rfl ?_
        refine j_aload_n h d_Mod_hearUpdate_93 rfl ?_
        refine j_callV h (c_Mod_takes _ _ _ _ _ _ _ _ ms _ hs _ hr _ hrd hk3 h11) d_Mod_hearUpdate_94 ml_Mod_165 mv_Mod_takes (by assumption) ⟨rfl, rfl⟩ rfl rfl (Nat.le_of_ble_eq_true rfl) (hR_of hX (by decide) (by decide)) (hf_of hX (by decide) (by decide)) ?_
        rintro _ _ _ _ ⟨rfl, rfl, rfl, rfl⟩
        refine j_if_eq (tgt := 115) h d_Mod_hearUpdate_97 (by decide) (fun c5 => ?_) (fun c5 => ?_)
        · refine j_lv (lv' := [(0, .ref (K.ad 6 0)), (1, .int (nI s)), (2, .ref (K.aad 38)), (3, .int (nI (32 * s + a))), (4, .int _), (5, .int _)]) (lvs rfl (lvs rfl (lvs rfl (lvs rfl (lvs rfl (lvs rfl lvs0)))))) ?_
          first
            | (have q := uA2_n (t := clk G s) (s := s) (x := x) (Int32.not_lt.mpr (show x 5 ≤ G 19 (32 * s + a) by assumption)); rw [q.1, q.2] at hW; exact hW _ _ (by clear hX h hl hW; first | (simp_all; done) | grind) (by clear hX h hl hW; first | (simp_all; done) | grind))
            | (have q := uA2_0 (t := clk G s) (x := x) (Int32.not_le.mp (show ¬ x 5 ≤ G 19 (32 * s + a) by assumption)) (by assumption); rw [q.1, q.2] at hW; exact hW _ _ (by clear hX h hl hW; first | (simp_all; done) | grind) (by clear hX h hl hW; first | (simp_all; done) | grind))
            | (have q := uA2_1 (t := clk G s) (x := x) (Int32.not_le.mp (show ¬ x 5 ≤ G 19 (32 * s + a) by assumption)) (by assumption); rw [q.1, q.2] at hW; exact hW _ _ (by clear hX h hl hW; first | (simp_all; done) | grind) (by clear hX h hl hW; first | (simp_all; done) | grind))
        · refine j_aload_n h d_Mod_hearUpdate_100 rfl ?_
          refine j_getR h d_Mod_hearUpdate_101 fl_Mod_62 rfl (by assumption) (mP ms (a := 27) (by decide)) ?_
          refine j_iload_n h d_Mod_hearUpdate_104 rfl ?_
          refine j_aload_n h d_Mod_hearUpdate_105 rfl ?_
          refine j_iconst (v := 5) h d_Mod_hearUpdate_106 (by decide) ?_
          refine m_iald3e (a := 38) (L := 14) (j := 5) (v := x 5) h ms d_Mod_hearUpdate_107 (by decide) rfl (by decide) rfl rfl (by omega) (hrd 5 (by decide)) ?_
          refine m_iast2 (a := 27) (L := 64) (j := (32 * s + a)) h ms d_Mod_hearUpdate_108 (by decide) rfl (by decide) rfl rfl (by omega) ?_
          refine j_iconst (v := 1) h d_Mod_hearUpdate_109 (by decide) ?_
          refine j_istore h d_Mod_hearUpdate_110 (Nat.lt_of_lt_of_eq (m := 7) (by decide) hN.symm) ?_
          refine j_iconst (v := 1) h d_Mod_hearUpdate_112 (by decide) ?_
          refine j_istore h d_Mod_hearUpdate_113 (Nat.lt_of_lt_of_eq (m := 7) (by decide) hN.symm) ?_
          refine j_lv (lv' := [(0, .ref (K.ad 6 0)), (1, .int (nI s)), (2, .ref (K.aad 38)), (3, .int (nI (32 * s + a))), (4, .int _), (5, .int _)]) (lvs rfl (lvs rfl (lvs rfl (lvs rfl (lvs rfl (lvs rfl lvs0)))))) ?_
          first
            | (have q := uA2_n (t := clk G s) (s := s) (x := x) (Int32.not_lt.mpr (show x 5 ≤ G 19 (32 * s + a) by assumption)); rw [q.1, q.2] at hW; exact hW _ _ (by clear hX h hl hW; first | (simp_all; done) | grind) (by clear hX h hl hW; first | (simp_all; done) | grind))
            | (have q := uA2_0 (t := clk G s) (x := x) (Int32.not_le.mp (show ¬ x 5 ≤ G 19 (32 * s + a) by assumption)) (by assumption); rw [q.1, q.2] at hW; exact hW _ _ (by clear hX h hl hW; first | (simp_all; done) | grind) (by clear hX h hl hW; first | (simp_all; done) | grind))
            | (have q := uA2_1 (t := clk G s) (x := x) (Int32.not_le.mp (show ¬ x 5 ≤ G 19 (32 * s + a) by assumption)) (by assumption); rw [q.1, q.2] at hW; exact hW _ _ (by clear hX h hl hW; first | (simp_all; done) | grind) (by clear hX h hl hW; first | (simp_all; done) | grind))
  refine j_bipush (v := 32) h d_Mod_hearUpdate_0 (by decide) ?_
  refine j_iload_n h d_Mod_hearUpdate_2 rfl ?_
  refine j_imul h d_Mod_hearUpdate_3 ?_
  refine j_aload_n h d_Mod_hearUpdate_4 rfl ?_
  refine j_iconst (v := 4) h d_Mod_hearUpdate_5 (by decide) ?_
  refine m_iald3e (a := 38) (L := 14) (j := 4) (v := nI a) h ms d_Mod_hearUpdate_6 (by decide) rfl (by decide) rfl rfl (by omega) ((hrd 4 (by decide)).trans hx4) ?_
  refine j_ix32 (s := s) (a := a) h d_Mod_hearUpdate_7 ?_
  refine j_istore_n h d_Mod_hearUpdate_8 (Nat.lt_of_lt_of_eq (m := 7) (by decide) hN.symm) ?_
  refine j_aload_n h d_Mod_hearUpdate_9 rfl ?_
  refine j_bipush (v := 7) h d_Mod_hearUpdate_10 (by decide) ?_
  refine m_iald3e (a := 38) (L := 14) (j := 7) (v := x 7) h ms d_Mod_hearUpdate_12 (by decide) rfl (by decide) rfl rfl (by omega) (hrd 7 (by decide)) ?_
  refine j_aload_n h d_Mod_hearUpdate_13 rfl ?_
  refine j_getR h d_Mod_hearUpdate_14 fl_Mod_65 rfl (by assumption) (mP ms (a := 28) (by decide)) ?_
  refine j_iload_n h d_Mod_hearUpdate_17 rfl ?_
  refine m_iald2 (a := 28) (L := 64) (j := (32 * s + a)) h ms d_Mod_hearUpdate_18 (by decide) rfl (by decide) rfl rfl (by omega) ?_
  refine j_ic_gt (tgt := 23) h d_Mod_hearUpdate_19 (by decide) (fun c1 => ?_) (fun c1 => ?_)
  · refine j_aload_n h d_Mod_hearUpdate_23 rfl ?_
    refine j_getR h d_Mod_hearUpdate_24 fl_Mod_71 rfl (by assumption) (mP ms (a := 30) (by decide)) ?_
    refine j_iload_n h d_Mod_hearUpdate_27 rfl ?_
    refine j_aload_n h d_Mod_hearUpdate_28 rfl ?_
    refine j_getR h d_Mod_hearUpdate_29 fl_Mod_71 rfl (by assumption) (mP ms (a := 30) (by decide)) ?_
    refine j_iload_n h d_Mod_hearUpdate_32 rfl ?_
    refine m_zald2 (a := 30) (L := 64) (j := (32 * s + a)) h ms d_Mod_hearUpdate_33 (by decide) rfl (by decide) rfl rfl (by omega) ?_
    refine j_if_ne (tgt := 50) h d_Mod_hearUpdate_34 (by decide) (fun c2 => ?_) (fun c2 => ?_)
    · refine j_iconst (v := 1) h d_Mod_hearUpdate_50 (by decide) ?_
      refine j_goto (tgt := 55) h d_Mod_hearUpdate_51 (by decide) ?_
      refine m_zast2 (a := 30) (L := 64) (j := (32 * s + a)) h ms d_Mod_hearUpdate_55 (by decide) rfl (by decide) rfl rfl (by omega) (by first | exact Or.inl rfl | exact Or.inr rfl | exact b01_z _ | assumption) ?_
      refine j_mem (C' := (uA1 C (32 * s + a) s x)) (by clear hX h hl h155 h175 h115 h56 hgo hgN hc0 hf2; have zr := (z0 (32 * s + a)).2.2.2; unfold uA1; funext cc ii; first | (simp_all [up_rd]; done) | grind [up_rd]) ?_
      refine j_lv (lv' := [(0, .ref (K.ad 6 0)), (1, .int (nI s)), (2, .ref (K.aad 38)), (3, .int (nI (32 * s + a)))]) (lvs rfl (lvs rfl (lvs rfl (lvs rfl lvs0)))) ?_
      exact h56 (by first | assumption | (clear hX h hl h155 h175 h115 h56 hgo hgN hc0 hf2; grind))
    · refine j_aload_n h d_Mod_hearUpdate_37 rfl ?_
      refine j_bipush (v := 8) h d_Mod_hearUpdate_38 (by decide) ?_
      refine m_iald3e (a := 38) (L := 14) (j := 8) (v := x 8) h ms d_Mod_hearUpdate_40 (by decide) rfl (by decide) rfl rfl (by omega) (hrd 8 (by decide)) ?_
      refine j_aload_n h d_Mod_hearUpdate_41 rfl ?_
      refine j_getR h d_Mod_hearUpdate_42 fl_Mod_16 rfl (by assumption) (mP ms (a := 12) (by decide)) ?_
      refine j_iload_n h d_Mod_hearUpdate_45 rfl ?_
      refine m_iald2 (a := 12) (L := 2) (j := s) h ms d_Mod_hearUpdate_46 (by decide) rfl (by decide) rfl rfl (by omega) ?_
      refine j_ic_ne (tgt := 54) h d_Mod_hearUpdate_47 (by decide) (fun c3 => ?_) (fun c3 => ?_)
      · refine j_iconst (v := 0) h d_Mod_hearUpdate_54 (by decide) ?_
        refine m_zast2 (a := 30) (L := 64) (j := (32 * s + a)) h ms d_Mod_hearUpdate_55 (by decide) rfl (by decide) rfl rfl (by omega) (by first | exact Or.inl rfl | exact Or.inr rfl | exact b01_z _ | assumption) ?_
        refine j_mem (C' := (uA1 C (32 * s + a) s x)) (by clear hX h hl h155 h175 h115 h56 hgo hgN hc0 hf2; have zr := (z0 (32 * s + a)).2.2.2; unfold uA1; funext cc ii; first | (simp_all [up_rd]; done) | grind [up_rd]) ?_
        refine j_lv (lv' := [(0, .ref (K.ad 6 0)), (1, .int (nI s)), (2, .ref (K.aad 38)), (3, .int (nI (32 * s + a)))]) (lvs rfl (lvs rfl (lvs rfl (lvs rfl lvs0)))) ?_
        exact h56 (by first | assumption | (clear hX h hl h155 h175 h115 h56 hgo hgN hc0 hf2; grind))
      · refine j_iconst (v := 1) h d_Mod_hearUpdate_50 (by decide) ?_
        refine j_goto (tgt := 55) h d_Mod_hearUpdate_51 (by decide) ?_
        refine m_zast2 (a := 30) (L := 64) (j := (32 * s + a)) h ms d_Mod_hearUpdate_55 (by decide) rfl (by decide) rfl rfl (by omega) (by first | exact Or.inl rfl | exact Or.inr rfl | exact b01_z _ | assumption) ?_
        refine j_mem (C' := (uA1 C (32 * s + a) s x)) (by clear hX h hl h155 h175 h115 h56 hgo hgN hc0 hf2; have zr := (z0 (32 * s + a)).2.2.2; unfold uA1; funext cc ii; first | (simp_all [up_rd]; done) | grind [up_rd]) ?_
        refine j_lv (lv' := [(0, .ref (K.ad 6 0)), (1, .int (nI s)), (2, .ref (K.aad 38)), (3, .int (nI (32 * s + a)))]) (lvs rfl (lvs rfl (lvs rfl (lvs rfl lvs0)))) ?_
        exact h56 (by first | assumption | (clear hX h hl h155 h175 h115 h56 hgo hgN hc0 hf2; grind))
  · exact j_vret hX d_Mod_hearUpdate_22 rfl (Nat.le_refl _) (Nat.le_refl _) ⟨rfl, rfl, rfl, D, by unfold hupA; rw [if_neg (by assumption)], DK.refl _, by unfold hupN; rw [if_neg (by assumption)]; exact hm⟩
