/-! Math.max and Math.min; switches -/
section JM
variable {X : Jx} {cc : ByteArray} {own : String} {K : Kx} {V : Vx} {I : MI3} {P : MP} {cells slots pc : Nat} {lv : List (Nat × Value)} {st : List Value} {md : Mx} {d : Nat × Nat} {mc ms : Nat} {post : Px}
theorem wq_max : Cond.code Lib.Math.max.name Lib.Math.max.code 2 (some .int) ∈ WA := wa_1 (List.mem_of_getElem? (i := 26) (by decide +kernel)) (by decide +kernel)
theorem wr_max : Cond.static Lib.Math.max.name ∈ WA := wa_1 (List.mem_of_getElem? (i := 25) (by decide +kernel)) (by decide +kernel)
theorem wq_min : Cond.code Lib.Math.min.name Lib.Math.min.code 2 (some .int) ∈ WA := wa_1 (List.mem_of_getElem? (i := 29) (by decide +kernel)) (by decide +kernel)
theorem wr_min : Cond.static Lib.Math.min.name ∈ WA := wa_1 (List.mem_of_getElem? (i := 28) (by decide +kernel)) (by decide +kernel)
theorem wj_math : Cond.initialized "java/lang/Math" ∈ WA := wa_1 (List.mem_of_getElem? (i := 2) (by decide +kernel)) (by decide +kernel)
theorem wm_LP_191 : Cond.methodLink R_LP 191 Lib.Math.max.name ∈ WA := wa_1 (List.mem_of_getElem? (i := 24) (by decide +kernel)) (by decide +kernel)
theorem wm_LP_196 : Cond.methodLink R_LP 196 Lib.Math.min.name ∈ WA := wa_1 (List.mem_of_getElem? (i := 27) (by decide +kernel)) (by decide +kernel)
theorem wm_Rec_54 : Cond.methodLink R_Rec 54 Lib.Math.max.name ∈ WA := wa_2 (List.mem_of_getElem? (i := 202) (by decide +kernel)) (by decide +kernel)
theorem wm_Srv_117 : Cond.methodLink R_Srv 117 Lib.Math.min.name ∈ WA := wa_2 (List.mem_of_getElem? (i := 138) (by decide +kernel)) (by decide +kernel)
theorem wm_Srv_139 : Cond.methodLink R_Srv 139 Lib.Math.max.name ∈ WA := wa_2 (List.mem_of_getElem? (i := 148) (by decide +kernel)) (by decide +kernel)
theorem hM_of (h : HX X md K d mc ms post) {n : Nat} (h1 : 1 ≤ d.1) (h2 : n + 13 ≤ d.2) : 1 ≤ X.R.frames ∧ n + 13 ≤ X.R.locals := by
  rw [h.2.2.1]
  exact ⟨h1, h2⟩
theorem j_mmax (h : OkX X cc own K) {idx : Nat} {x y : Int32} (dd : decode cc pc = .ok (.invokestatic idx, 3)) (w : Cond.methodLink own idx Lib.Math.max.name ∈ WA) (hR : 1 ≤ X.R.frames ∧ (st.map fun v => v.category).sum + 13 ≤ X.R.locals) (hf : cells + 0 ≤ X.R.cells ∧ slots + 0 ≤ X.R.slots) (k : J X K V I P cells slots (pc + 3) lv (.int (gr x y) :: st)) : J X K V I P cells slots pc lv (.int y :: .int x :: st) := by
  intro H locs ls a b e f g
  have ht := h.2.2.2.2.1
  exact va_mmax h.1 h.2.1 (h.2.2.1.trans g.1.1.symm) h.2.2.2.1 (ht _ w) (ht _ wr_max) (ht _ wj_math) (ht _ wq_max) hR.1 hR.2 hf.1 hf.2 dd (k H locs ls a b e f g)
def ls_ (x y : Int32) : Int32 := if y < x then y else x
theorem j_mmin (h : OkX X cc own K) {idx : Nat} {x y : Int32} (dd : decode cc pc = .ok (.invokestatic idx, 3)) (w : Cond.methodLink own idx Lib.Math.min.name ∈ WA) (hR : 1 ≤ X.R.frames ∧ (st.map fun v => v.category).sum + 13 ≤ X.R.locals) (hf : cells + 0 ≤ X.R.cells ∧ slots + 0 ≤ X.R.slots) (k : J X K V I P cells slots (pc + 3) lv (.int (ls_ x y) :: st)) : J X K V I P cells slots pc lv (.int y :: .int x :: st) := by
  intro H locs ls a b e f g
  have ht := h.2.2.2.2.1
  exact va_mmin h.1 h.2.1 (h.2.2.1.trans g.1.1.symm) h.2.2.2.1 (ht _ w) (ht _ wr_min) (ht _ wj_math) (ht _ wq_min) hR.1 hR.2 hf.1 hf.2 dd (k H locs ls a b e f g)
theorem j_tabIn (h : OkX X cc own K) {dflt lo hi : Int} {offs : Array Int} {len : Nat} {x : Int32} {off : Int} {tgt : Nat} (dd : decode cc pc = .ok (.tableswitch dflt lo hi offs, len)) (h1 : ¬ x.toInt < lo) (h2 : ¬ hi < x.toInt) (ho : offs[(x.toInt - lo).toNat]? = some off) (ht : (pc : Int) + off = (tgt : Int)) (k : J X K V I P cells slots tgt lv st) : J X K V I P cells slots pc lv (.int x :: st) :=
  fun H locs ls a b e f g => lv_tableIn h.1 h.2.1 dd h1 h2 ho ht (k H locs ls a b e f g)
theorem j_tabOut (h : OkX X cc own K) {dflt lo hi : Int} {offs : Array Int} {len : Nat} {x : Int32} {tgt : Nat} (dd : decode cc pc = .ok (.tableswitch dflt lo hi offs, len)) (h1 : x.toInt < lo ∨ hi < x.toInt) (ht : (pc : Int) + dflt = (tgt : Int)) (k : J X K V I P cells slots tgt lv st) : J X K V I P cells slots pc lv (.int x :: st) :=
  fun H locs ls a b e f g => lv_tableOut h.1 h.2.1 dd h1 ht (k H locs ls a b e f g)
theorem j_look (h : OkX X cc own K) {dflt : Int} {ps : Array (Int × Int)} {len : Nat} {x : Int32} {off : Int} {tgt : Nat} (dd : decode cc pc = .ok (.lookupswitch dflt ps, len)) (hp : (ps.toList.zip (ps.toList.drop 1)).all (fun (a, next) => a.1 < next.1) = true) (ho : Op.lookupswitch.offset ps.toList dflt x.toInt = off) (ht : (pc : Int) + off = (tgt : Int)) (k : J X K V I P cells slots tgt lv st) : J X K V I P cells slots pc lv (.int x :: st) :=
  fun H locs ls a b e f g => lv_lookup h.1 h.2.1 dd hp ho ht (k H locs ls a b e f g)
end JM
theorem up_rd {α : Type} (f : Nat → Nat → α) (c i c' i' : Nat) (v : α) : up f c i v c' i' = if c' = c ∧ i' = i then v else f c' i' := rfl
