/-! small constructors -/
theorem wo_inst : Cond.instanceMethod Lib.objectInit ∈ WA := wa_1 (List.mem_of_getElem? (i := 19) (by decide +kernel)) (by decide +kernel)
theorem wo_code : Cond.code Lib.objectInit ⟨#[0xb1]⟩ 1 none ∈ WA := wa_1 (List.mem_of_getElem? (i := 20) (by decide +kernel)) (by decide +kernel)
theorem wo_LP : Cond.methodLink R_LP 1 Lib.objectInit ∈ WA := wa_1 (List.mem_of_getElem? (i := 18) (by decide +kernel)) (by decide +kernel)
theorem wo_Srv : Cond.methodLink R_Srv 3 Lib.objectInit ∈ WA := wa_1 (List.mem_of_getElem? (i := 36) (by decide +kernel)) (by decide +kernel)
theorem wo_Rec : Cond.methodLink R_Rec 3 Lib.objectInit ∈ WA := wa_1 (List.mem_of_getElem? (i := 43) (by decide +kernel)) (by decide +kernel)
theorem wo_Cli : Cond.methodLink R_Cli 3 Lib.objectInit ∈ WA := wa_1 (List.mem_of_getElem? (i := 145) (by decide +kernel)) (by decide +kernel)
theorem wo_Net : Cond.methodLink R_Net 3 Lib.objectInit ∈ WA := wa_1 (List.mem_of_getElem? (i := 167) (by decide +kernel)) (by decide +kernel)
theorem wo_Msg : Cond.methodLink R_Msg 3 Lib.objectInit ∈ WA := wa_1 (List.mem_of_getElem? (i := 174) (by decide +kernel)) (by decide +kernel)
theorem wo_Mod : Cond.methodLink R_Mod 1 Lib.objectInit ∈ WA := wa_4 (List.mem_of_getElem? (i := 50) (by decide +kernel)) (by decide +kernel)
section JOBJ
variable {X : Jx} {cc : ByteArray} {own : String} {K : Kx} {V : Vx} {I : MI3} {P : MP} {cells slots pc : Nat} {lv : List (Nat × Value)} {st : List Value} {md : Mx} {d : Nat × Nat} {mc ms : Nat} {post : Px}
theorem hM2_of (h : HX X md K d mc ms post) {n : Nat} (h1 : 1 ≤ d.1) (h2 : n + 12 ≤ d.2) : 1 ≤ X.R.frames ∧ n + 12 ≤ X.R.locals := by
  rw [h.2.2.1]
  exact ⟨h1, h2⟩
theorem j_obj (h : OkX X cc own K) {idx q : Nat} (dd : decode cc pc = .ok (.invokespecial idx, 3)) (w : Cond.methodLink own idx Lib.objectInit ∈ WA) (hR : 1 ≤ X.R.frames ∧ (st.map fun v => v.category).sum + 12 ≤ X.R.locals) (k : J X K V I P cells slots (pc + 3) lv st) : J X K V I P cells slots pc lv (.ref q :: st) := by
  intro H locs ls a b e f g
  have ht := h.2.2.2.2.1
  exact W.objInit h.1 h.2.1 h.2.2.2.1 (ht _ w) (ht _ wo_inst) (ht _ wo_code) rfl (g.1.1.trans h.2.2.1.symm) rfl dd hR.1 (by show 2 * 0 + _ + 12 ≤ _; have := hR.2; omega) (k H locs ls a b e f g)
end JOBJ
theorem d_Cli_init_0 : decode b_Cli_init 0 = .ok (.aload_n 0, 1) := by decide +kernel
theorem d_Cli_init_1 : decode b_Cli_init 1 = .ok (.invokespecial 3, 3) := by decide +kernel
theorem d_Cli_init_4 : decode b_Cli_init 4 = .ok (.aload_n 0, 1) := by decide +kernel
theorem d_Cli_init_5 : decode b_Cli_init 5 = .ok (.iconst (-1), 1) := by decide +kernel
theorem d_Cli_init_6 : decode b_Cli_init 6 = .ok (.putfield 9, 3) := by decide +kernel
theorem d_Cli_init_9 : decode b_Cli_init 9 = .ok (.return_, 1) := by decide +kernel
set_option maxRecDepth 100000 in
set_option maxHeartbeats 4000000 in
theorem c_Cli_init (l : Launch) (K : Kx) (V : Vx) (A B C D : MI) (P : MP) (c : Nat) (hc : V.1 3 c) : Ct l K md_Cli_init (1, 20) 0 0 [.ref (K.ad 3 c)] V (bk4 A B C D) P (EQ V (none) (bk4 (up A 30 c (-1)) B C D) P) := by
  refine ct_of [(0, .ref (K.ad 3 c))] (by decide) (Nat.le_of_ble_eq_true rfl) (ca_r ca_n) rfl ?_
  intro X hl hX
  have h : OkX X b_Cli_init R_Cli K := hX.1
  have hN : X.nL = 1 := hX.2.1
  refine j_aload_n h d_Cli_init_0 rfl ?_
  refine j_obj h d_Cli_init_1 wo_Cli (hM2_of hX (by decide) (Nat.le_of_ble_eq_true rfl)) ?_
  refine j_aload_n h d_Cli_init_4 rfl ?_
  refine j_iconst (v := -1) h d_Cli_init_5 (by decide) ?_
  refine j_put0 h d_Cli_init_6 fw_Cli_9 rfl rfl (by assumption) ?_
  exact j_vret hX d_Cli_init_9 rfl (Nat.le_refl _) (Nat.le_refl _) ⟨rfl, rfl, rfl, rfl⟩
theorem d_Msg_init_0 : decode b_Msg_init 0 = .ok (.aload_n 0, 1) := by decide +kernel
theorem d_Msg_init_1 : decode b_Msg_init 1 = .ok (.invokespecial 3, 3) := by decide +kernel
theorem d_Msg_init_4 : decode b_Msg_init 4 = .ok (.return_, 1) := by decide +kernel
set_option maxRecDepth 100000 in
set_option maxHeartbeats 4000000 in
theorem c_Msg_init (l : Launch) (K : Kx) (V : Vx) (A B C D : MI) (P : MP) (q : Nat) (hq : V.1 5 q) : Ct l K md_Msg_init (1, 20) 0 0 [.ref (K.ad 5 q)] V (bk4 A B C D) P (EQ V (none) (bk4 A B C D) P) := by
  refine ct_of [(0, .ref (K.ad 5 q))] (by decide) (Nat.le_of_ble_eq_true rfl) (ca_r ca_n) rfl ?_
  intro X hl hX
  have h : OkX X b_Msg_init R_Msg K := hX.1
  have hN : X.nL = 1 := hX.2.1
  refine j_aload_n h d_Msg_init_0 rfl ?_
  refine j_obj h d_Msg_init_1 wo_Msg (hM2_of hX (by decide) (Nat.le_of_ble_eq_true rfl)) ?_
  exact j_vret hX d_Msg_init_4 rfl (Nat.le_refl _) (Nat.le_refl _) ⟨rfl, rfl, rfl, rfl⟩
theorem d_Rec_init_0 : decode b_Rec_init 0 = .ok (.aload_n 0, 1) := by decide +kernel
theorem d_Rec_init_1 : decode b_Rec_init 1 = .ok (.invokespecial 3, 3) := by decide +kernel
theorem d_Rec_init_4 : decode b_Rec_init 4 = .ok (.aload_n 0, 1) := by decide +kernel
theorem d_Rec_init_5 : decode b_Rec_init 5 = .ok (.iload_n 1, 1) := by decide +kernel
theorem d_Rec_init_6 : decode b_Rec_init 6 = .ok (.putfield 9, 3) := by decide +kernel
theorem d_Rec_init_9 : decode b_Rec_init 9 = .ok (.aload_n 0, 1) := by decide +kernel
theorem d_Rec_init_10 : decode b_Rec_init 10 = .ok (.iconst (-1), 1) := by decide +kernel
theorem d_Rec_init_11 : decode b_Rec_init 11 = .ok (.putfield 15, 3) := by decide +kernel
theorem d_Rec_init_14 : decode b_Rec_init 14 = .ok (.return_, 1) := by decide +kernel
set_option maxRecDepth 100000 in
set_option maxHeartbeats 4000000 in
theorem c_Rec_init (l : Launch) (K : Kx) (V : Vx) (A B C D : MI) (P : MP) (r : Nat) (hr : V.1 2 r) (k : Int32) : Ct l K md_Rec_init (1, 20) 0 0 [.ref (K.ad 2 r), .int k] V (bk4 A B C D) P (EQ V (none) (bk4 (up (up A 10 r k) 11 r (-1)) B C D) P) := by
  refine ct_of [(0, .ref (K.ad 2 r)), (1, .int k)] (by decide) (Nat.le_of_ble_eq_true rfl) (ca_r (ca_i ca_n)) rfl ?_
  intro X hl hX
  have h : OkX X b_Rec_init R_Rec K := hX.1
  have hN : X.nL = 2 := hX.2.1
  refine j_aload_n h d_Rec_init_0 rfl ?_
  refine j_obj h d_Rec_init_1 wo_Rec (hM2_of hX (by decide) (Nat.le_of_ble_eq_true rfl)) ?_
  refine j_aload_n h d_Rec_init_4 rfl ?_
  refine j_iload_n h d_Rec_init_5 rfl ?_
  refine j_put0 h d_Rec_init_6 fw_Rec_9 rfl rfl (by assumption) ?_
  refine j_aload_n h d_Rec_init_9 rfl ?_
  refine j_iconst (v := -1) h d_Rec_init_10 (by decide) ?_
  refine j_put0 h d_Rec_init_11 fw_Rec_15 rfl rfl (by assumption) ?_
  exact j_vret hX d_Rec_init_14 rfl (Nat.le_refl _) (Nat.le_refl _) ⟨rfl, rfl, rfl, rfl⟩
