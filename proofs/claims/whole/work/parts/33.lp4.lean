/-! LeasePair: reading, dropping, asking -/
section JSW
variable {X : Jx} {cc : ByteArray} {own : String} {K : Kx} {V : Vx} {I : MI3} {P : MP} {cells slots pc : Nat} {lv : List (Nat × Value)} {st : List Value}
theorem j_lookHit (h : OkX X cc own K) {k : Int32} {default a0 off : Int} {pairs : Array (Int × Int)} {len tgt : Nat} (d : decode cc pc = .ok (.lookupswitch default pairs, len)) (hs : (pairs.toList.zip (pairs.toList.drop 1)).all (fun (a, next) => a.1 < next.1) = true) (hf : pairs.find? (·.1 == k.toInt) = some (a0, off)) (ht : (pc : Int) + off = (tgt : Int)) (kk : J X K V I P cells slots tgt lv st) : J X K V I P cells slots pc lv (.int k :: st) := by
  intro H locs ls a b e f g T hT Z
  obtain ⟨t, a1, b1⟩ := kk H locs ls a b e f g T hT Z
  refine ⟨t, Z.lookupswitchHit h.1 (g := F0 X.m pc ls (.int k :: st)) rfl rfl (by rw [h.2.1]; exact d) hs hf (by show 0 ≤ (pc : Int) + off; rw [ht]; omega) _ ?_, b1⟩
  have e9 : ((pc : Int) + off).toNat = tgt := by rw [ht]; rfl
  show Steps X.p.tables X.e X.below (T.setTop (F0 X.m ((pc : Int) + off).toNat ls st)) t
  rw [e9]
  exact a1
theorem j_lookMiss (h : OkX X cc own K) {k : Int32} {default : Int} {pairs : Array (Int × Int)} {len tgt : Nat} (d : decode cc pc = .ok (.lookupswitch default pairs, len)) (hs : (pairs.toList.zip (pairs.toList.drop 1)).all (fun (a, next) => a.1 < next.1) = true) (hf : pairs.find? (·.1 == k.toInt) = none) (ht : (pc : Int) + default = (tgt : Int)) (kk : J X K V I P cells slots tgt lv st) : J X K V I P cells slots pc lv (.int k :: st) := by
  intro H locs ls a b e f g T hT Z
  obtain ⟨t, a1, b1⟩ := kk H locs ls a b e f g T hT Z
  refine ⟨t, Z.lookupswitchMiss h.1 (g := F0 X.m pc ls (.int k :: st)) rfl rfl (by rw [h.2.1]; exact d) hs hf (by show 0 ≤ (pc : Int) + default; rw [ht]; omega) _ ?_, b1⟩
  have e9 : ((pc : Int) + default).toNat = tgt := by rw [ht]; rfl
  show Steps X.p.tables X.e X.below (T.setTop (F0 X.m ((pc : Int) + default).toNat ls st)) t
  rw [e9]
  exact a1
end JSW
def ctell (A : MI) (c w : Nat) : Int32 := match w with
  | 0 => if ¬ A 30 c = -1 ∧ A 40 0 < A 31 c - A 44 0 then A 30 c else -1
  | 1 => A 31 c
  | _ => A 32 c
def m_req (A : MI) (c s a : Nat) (k sec : Int32) : Msg := mk7 0 (nI s) (nI c) k (if k = 0 then -1 else nI a) (A 32 c + 1) (if k = 2 then 0 else sec)
theorem d_LP_drop_0 : decode b_LP_drop 0 = .ok (.aload_n 0, 1) := by decide +kernel
theorem d_LP_drop_1 : decode b_LP_drop 1 = .ok (.getfield 39, 3) := by decide +kernel
theorem d_LP_drop_4 : decode b_LP_drop 4 = .ok (.iload_n 1, 1) := by decide +kernel
theorem d_LP_drop_5 : decode b_LP_drop 5 = .ok (.invokevirtual 138, 3) := by decide +kernel
theorem d_LP_drop_8 : decode b_LP_drop 8 = .ok (.invokestatic 59, 3) := by decide +kernel
theorem d_LP_drop_11 : decode b_LP_drop 11 = .ok (.aload_n 0, 1) := by decide +kernel
theorem d_LP_drop_12 : decode b_LP_drop 12 = .ok (.getfield 39, 3) := by decide +kernel
theorem d_LP_drop_15 : decode b_LP_drop 15 = .ok (.iload_n 1, 1) := by decide +kernel
theorem d_LP_drop_16 : decode b_LP_drop 16 = .ok (.invokevirtual 161, 3) := by decide +kernel
theorem d_LP_drop_19 : decode b_LP_drop 19 = .ok (.aload_n 0, 1) := by decide +kernel
theorem d_LP_drop_20 : decode b_LP_drop 20 = .ok (.getfield 39, 3) := by decide +kernel
theorem d_LP_drop_23 : decode b_LP_drop 23 = .ok (.getfield 164, 3) := by decide +kernel
theorem d_LP_drop_26 : decode b_LP_drop 26 = .ok (.ireturn, 1) := by decide +kernel
set_option maxRecDepth 100000 in
set_option maxHeartbeats 4000000 in
theorem c_LP_drop (l : Launch) (hlt : l.stackTraces = false) (K : Kx) (V : Vx) (A B C D : MI) (P : MP) (hV : ∀ z, V.2.2 z) (n : Nat) (cs : CS K V P n) (ld sk : Int32) (N T : List Msg) (U : Msg) (hnc : NC K P B ld sk N T U) (z : Int32) : CtX l K md_LP_drop (10, 141) 1 6 [.ref (K.ad 0 0), .int z] V (bk4 A B C D) P (fun V' r I' P' => ∃ k, k < N.length ∧ z = nI k ∧ TP K V C D P ld sk (some (.int (nI (N.eraseIdx k).length))) A (N.eraseIdx k) T U V' r I' P') (¬ ∃ k, k < N.length ∧ z = nI k) := by
  refine ctx_of [(0, .ref (K.ad 0 0)), (1, .int z)] (by decide) (Nat.le_of_ble_eq_true rfl) (ca_r (ca_i ca_n)) rfl ?_
  intro X hl hXX
  have hX := hXX.1
  have h : OkX X b_LP_drop R_LP K := hX.1
  have hN : X.nL = 2 := hX.2.1
  have hlt9 : X.l.stackTraces = false := by rw [hl]; exact hlt
  have hlv := cs_lv cs
  have hnv := cs_nv cs
  obtain ⟨kb, t, g, f, ft, nw⟩ := id hnc
  obtain ⟨ht, hf, hc, b70, b72, p5, p6, hg, hgi⟩ := id nw.1
  have hhas := has_nat (x := z) hc
  refine j_aload_n h d_LP_drop_0 rfl ?_
  refine j_getR h d_LP_drop_1 fl_LP_39 rfl (by assumption) (cs_p2 cs) ?_
  refine j_iload_n h d_LP_drop_4 rfl ?_
  refine j_callV h (c_Net_has _ _ _ _ _ _ _ _ _ cs _ b72 _) d_LP_drop_5 ml_LP_138 mv_Net_has (by assumption) ⟨rfl, rfl⟩ rfl rfl (Nat.le_of_ble_eq_true rfl) (hRx hXX (by decide) (by decide)) (hfx hXX (by decide) (by decide)) ?_
  rintro _ _ _ _ ⟨rfl, rfl, rfl, rfl⟩
  refine jx_callS h (c_LP_need _ hlt9 _ _ _ _ hV _) d_LP_drop_8 ml_LP_59 ms_LP_need rfl rfl (Nat.le_of_ble_eq_true rfl) (hRx hXX (by decide) (by decide)) (hfx hXX (by decide) (by decide)) (fun hx => jx_out hXX (fun e => b01_0.mp hx (hhas.mpr e)) (by decide) (by decide)) ?_
  rintro _ _ _ _ ⟨⟨rfl, rfl, rfl, rfl⟩, cn8⟩
  obtain ⟨k, hk, rfl⟩ := hhas.mp (b01_n0 cn8)
  refine j_aload_n h d_LP_drop_11 rfl ?_
  refine j_getR h d_LP_drop_12 fl_LP_39 rfl (by assumption) (cs_p2 cs) ?_
  refine j_iload_n h d_LP_drop_15 rfl ?_
  refine j_callV h (c_Net_remove _ _ _ _ _ _ _ _ _ cs _ _ _ _ _ hnc _ hk) d_LP_drop_16 ml_LP_161 mv_Net_remove (by assumption) ⟨rfl, rfl⟩ rfl rfl (Nat.le_of_ble_eq_true rfl) (hRx hXX (by decide) (by decide)) (hfx hXX (by decide) (by decide)) ?_
  rintro _ _ _ _ ⟨rfl, rfl, pe, B2, rfl, hn2⟩
  have cs := CS_pe pe cs
  obtain ⟨kb2, t2, g2, f2, ft2, nw2⟩ := id hn2
  obtain ⟨ht2, hf2, hc2, c70, c72, q5, q6, hg2, hgi2⟩ := id nw2.1
  refine j_aload_n h d_LP_drop_19 rfl ?_
  refine j_getR h d_LP_drop_20 fl_LP_39 rfl (by assumption) (cs_p2 cs) ?_
  refine j_get1e h d_LP_drop_23 fl_LP_164 rfl (by assumption) c72 ?_
  exact jx_ret hXX (j_iret hX d_LP_drop_26 rfl (by decide) (by decide) ⟨k, hk, rfl, rfl, rfl, pe, _, rfl, hn2⟩)
theorem d_LP_message_0 : decode b_LP_message 0 = .ok (.aload_n 0, 1) := by decide +kernel
theorem d_LP_message_1 : decode b_LP_message 1 = .ok (.getfield 39, 3) := by decide +kernel
theorem d_LP_message_4 : decode b_LP_message 4 = .ok (.iload_n 1, 1) := by decide +kernel
theorem d_LP_message_5 : decode b_LP_message 5 = .ok (.invokevirtual 138, 3) := by decide +kernel
theorem d_LP_message_8 : decode b_LP_message 8 = .ok (.ifCond .eq 17, 3) := by decide +kernel
theorem d_LP_message_11 : decode b_LP_message 11 = .ok (.iload_n 2, 1) := by decide +kernel
theorem d_LP_message_12 : decode b_LP_message 12 = .ok (.iconst 0, 1) := by decide +kernel
theorem d_LP_message_13 : decode b_LP_message 13 = .ok (.bipush 6, 2) := by decide +kernel
theorem d_LP_message_15 : decode b_LP_message 15 = .ok (.invokestatic 51, 3) := by decide +kernel
theorem d_LP_message_18 : decode b_LP_message 18 = .ok (.ifCond .eq 7, 3) := by decide +kernel
theorem d_LP_message_21 : decode b_LP_message 21 = .ok (.iconst 1, 1) := by decide +kernel
theorem d_LP_message_22 : decode b_LP_message 22 = .ok (.goto 4, 3) := by decide +kernel
theorem d_LP_message_25 : decode b_LP_message 25 = .ok (.iconst 0, 1) := by decide +kernel
theorem d_LP_message_26 : decode b_LP_message 26 = .ok (.invokestatic 59, 3) := by decide +kernel
theorem d_LP_message_29 : decode b_LP_message 29 = .ok (.aload_n 0, 1) := by decide +kernel
theorem d_LP_message_30 : decode b_LP_message 30 = .ok (.getfield 39, 3) := by decide +kernel
theorem d_LP_message_33 : decode b_LP_message 33 = .ok (.iload_n 1, 1) := by decide +kernel
theorem d_LP_message_34 : decode b_LP_message 34 = .ok (.invokevirtual 142, 3) := by decide +kernel
theorem d_LP_message_37 : decode b_LP_message 37 = .ok (.iload_n 2, 1) := by decide +kernel
theorem d_LP_message_38 : decode b_LP_message 38 = .ok (.invokevirtual 167, 3) := by decide +kernel
theorem d_LP_message_41 : decode b_LP_message 41 = .ok (.ireturn, 1) := by decide +kernel
set_option maxRecDepth 100000 in
set_option maxHeartbeats 4000000 in
theorem c_LP_message (l : Launch) (hlt : l.stackTraces = false) (K : Kx) (V : Vx) (A B C D : MI) (P : MP) (hV : ∀ z, V.2.2 z) (n : Nat) (cs : CS K V P n) (ld sk : Int32) (N T : List Msg) (U : Msg) (hnc : NC K P B ld sk N T U) (z y : Int32) : CtX l K md_LP_message (10, 141) 1 6 [.ref (K.ad 0 0), .int z, .int y] V (bk4 A B C D) P (fun V' r I' P' => ∃ k x w, N[k]? = some x ∧ z = nI k ∧ w < 7 ∧ y = nI w ∧ EQ V (some (.int (x w))) (bk4 A B C D) P V' r I' P') (¬ ((∃ k, k < N.length ∧ z = nI k) ∧ wn y 0 6)) := by
  refine ctx_of [(0, .ref (K.ad 0 0)), (1, .int z), (2, .int y)] (by decide) (Nat.le_of_ble_eq_true rfl) (ca_r (ca_i (ca_i ca_n))) rfl ?_
  intro X hl hXX
  have hX := hXX.1
  have h : OkX X b_LP_message R_LP K := hX.1
  have hN : X.nL = 3 := hX.2.1
  have hlt9 : X.l.stackTraces = false := by rw [hl]; exact hlt
  have hlv := cs_lv cs
  have hnv := cs_nv cs
  obtain ⟨kb, t, g, f, ft, nw⟩ := id hnc
  obtain ⟨ht, hf, hc, b70, b72, p5, p6, hg, hgi⟩ := id nw.1
  have hhas := has_nat (x := z) hc
  refine j_aload_n h d_LP_message_0 rfl ?_
  refine j_getR h d_LP_message_1 fl_LP_39 rfl (by assumption) (cs_p2 cs) ?_
  refine j_iload_n h d_LP_message_4 rfl ?_
  refine j_callV h (c_Net_has _ _ _ _ _ _ _ _ _ cs _ b72 _) d_LP_message_5 ml_LP_138 mv_Net_has (by assumption) ⟨rfl, rfl⟩ rfl rfl (Nat.le_of_ble_eq_true rfl) (hRx hXX (by decide) (by decide)) (hfx hXX (by decide) (by decide)) ?_
  rintro _ _ _ _ ⟨rfl, rfl, rfl, rfl⟩
  refine j_if_eq (tgt := 25) h d_LP_message_8 (by decide) (fun c1 => ?_) (fun c1 => ?_)
  · refine j_iconst (v := 0) h d_LP_message_25 (by decide) ?_
    refine jx_callS h (c_LP_need _ hlt9 _ _ _ _ hV _) d_LP_message_26 ml_LP_59 ms_LP_need rfl rfl (Nat.le_of_ble_eq_true rfl) (hRx hXX (by decide) (by decide)) (hfx hXX (by decide) (by decide)) (fun hx => jx_out hXX (by clear hX hXX h hl; first | (simp_all [b01_0, wn]; done) | grind [b01_0, wn]) (by decide) (by decide)) ?_
    rintro _ _ _ _ ⟨⟨rfl, rfl, rfl, rfl⟩, cn26⟩
    exact absurd rfl cn26
  · refine j_iload_n h d_LP_message_11 rfl ?_
    refine j_iconst (v := 0) h d_LP_message_12 (by decide) ?_
    refine j_bipush (v := 6) h d_LP_message_13 (by decide) ?_
    refine j_callS h (c_LP_isWithin _ _ _ _ _ _ _ _ _ _ _) d_LP_message_15 ml_LP_51 ms_LP_isWithin rfl rfl (Nat.le_of_ble_eq_true rfl) (hRx hXX (by decide) (by decide)) (hfx hXX (by decide) (by decide)) ?_
    rintro _ _ _ _ ⟨rfl, rfl, rfl, rfl⟩
    refine j_if_eq (tgt := 25) h d_LP_message_18 (by decide) (fun c2 => ?_) (fun c2 => ?_)
    · refine j_iconst (v := 0) h d_LP_message_25 (by decide) ?_
      refine jx_callS h (c_LP_need _ hlt9 _ _ _ _ hV _) d_LP_message_26 ml_LP_59 ms_LP_need rfl rfl (Nat.le_of_ble_eq_true rfl) (hRx hXX (by decide) (by decide)) (hfx hXX (by decide) (by decide)) (fun hx => jx_out hXX (by clear hX hXX h hl; first | (simp_all [b01_0, wn]; done) | grind [b01_0, wn]) (by decide) (by decide)) ?_
      rintro _ _ _ _ ⟨⟨rfl, rfl, rfl, rfl⟩, cn26⟩
      exact absurd rfl cn26
    · refine j_iconst (v := 1) h d_LP_message_21 (by decide) ?_
      refine j_goto (tgt := 26) h d_LP_message_22 (by decide) ?_
      refine jx_callS h (c_LP_need _ hlt9 _ _ _ _ hV _) d_LP_message_26 ml_LP_59 ms_LP_need rfl rfl (Nat.le_of_ble_eq_true rfl) (hRx hXX (by decide) (by decide)) (hfx hXX (by decide) (by decide)) (fun hx => jx_out hXX (absurd hx (by decide)) (by decide) (by decide)) ?_
      rintro _ _ _ _ ⟨⟨rfl, rfl, rfl, rfl⟩, cn26⟩
      obtain ⟨k, hk, rfl⟩ := hhas.mp (b01_n0 c1)
      obtain ⟨w, hw, rfl⟩ := wn_nat (b := 6) (by decide) (b01_n0 c2)
      have hqv := cs_mv cs (Nat.lt_succ_of_lt (hg t ((f + k) % 300) ht (Nat.mod_lt _ (by decide))).2)
      obtain ⟨x, hx⟩ : ∃ x, N[k]? = some x := ⟨_, List.getElem?_eq_getElem hk⟩
      refine j_aload_n h d_LP_message_29 rfl ?_
      refine j_getR h d_LP_message_30 fl_LP_39 rfl (by assumption) (cs_p2 cs) ?_
      refine j_iload_n h d_LP_message_33 rfl ?_
      refine j_callV h (c_Net_at _ _ _ _ _ _ _ _ _ cs _ _ _ _ nw.1 _ (by omega)) d_LP_message_34 ml_LP_142 mv_Net_at (by assumption) ⟨rfl, rfl⟩ rfl rfl (Nat.le_of_ble_eq_true rfl) (hRx hXX (by decide) (by decide)) (hfx hXX (by decide) (by decide)) ?_
      rintro _ _ _ _ ⟨rfl, rfl, rfl, rfl⟩
      refine j_iload_n h d_LP_message_37 rfl ?_
      refine j_callV h (c_Msg_tell _ _ _ _ _ _ _ _ _ hqv _ hw) d_LP_message_38 ml_LP_167 mv_Msg_tell (by assumption) ⟨rfl, rfl⟩ rfl rfl (Nat.le_of_ble_eq_true rfl) (hRx hXX (by decide) (by decide)) (hfx hXX (by decide) (by decide)) ?_
      rintro _ _ _ _ ⟨rfl, rfl, rfl, rfl⟩
      exact jx_ret hXX (j_iret hX d_LP_message_41 rfl (by decide) (by decide) ⟨k, x, w, hx, rfl, hw, rfl, rfl, by rw [((nw.2.1 k x hx).1 w hw)], rfl, rfl⟩)
theorem d_LP_record_0 : decode b_LP_record 0 = .ok (.aload_n 0, 1) := by decide +kernel
theorem d_LP_record_1 : decode b_LP_record 1 = .ok (.iload_n 1, 1) := by decide +kernel
theorem d_LP_record_2 : decode b_LP_record 2 = .ok (.invokevirtual 63, 3) := by decide +kernel
theorem d_LP_record_5 : decode b_LP_record 5 = .ok (.astore 4, 2) := by decide +kernel
theorem d_LP_record_7 : decode b_LP_record 7 = .ok (.iload_n 2, 1) := by decide +kernel
theorem d_LP_record_8 : decode b_LP_record 8 = .ok (.iconst 0, 1) := by decide +kernel
theorem d_LP_record_9 : decode b_LP_record 9 = .ok (.aload_n 0, 1) := by decide +kernel
theorem d_LP_record_10 : decode b_LP_record 10 = .ok (.getfield 13, 3) := by decide +kernel
theorem d_LP_record_13 : decode b_LP_record 13 = .ok (.iconst 1, 1) := by decide +kernel
theorem d_LP_record_14 : decode b_LP_record 14 = .ok (.isub, 1) := by decide +kernel
theorem d_LP_record_15 : decode b_LP_record 15 = .ok (.invokestatic 51, 3) := by decide +kernel
theorem d_LP_record_18 : decode b_LP_record 18 = .ok (.ifCond .eq 17, 3) := by decide +kernel
theorem d_LP_record_21 : decode b_LP_record 21 = .ok (.iload_n 3, 1) := by decide +kernel
theorem d_LP_record_22 : decode b_LP_record 22 = .ok (.iconst 0, 1) := by decide +kernel
theorem d_LP_record_23 : decode b_LP_record 23 = .ok (.bipush 9, 2) := by decide +kernel
theorem d_LP_record_25 : decode b_LP_record 25 = .ok (.invokestatic 51, 3) := by decide +kernel
theorem d_LP_record_28 : decode b_LP_record 28 = .ok (.ifCond .eq 7, 3) := by decide +kernel
theorem d_LP_record_31 : decode b_LP_record 31 = .ok (.iconst 1, 1) := by decide +kernel
theorem d_LP_record_32 : decode b_LP_record 32 = .ok (.goto 4, 3) := by decide +kernel
theorem d_LP_record_35 : decode b_LP_record 35 = .ok (.iconst 0, 1) := by decide +kernel
theorem d_LP_record_36 : decode b_LP_record 36 = .ok (.invokestatic 59, 3) := by decide +kernel
theorem d_LP_record_39 : decode b_LP_record 39 = .ok (.aload 4, 2) := by decide +kernel
theorem d_LP_record_41 : decode b_LP_record 41 = .ok (.getfield 178, 3) := by decide +kernel
theorem d_LP_record_44 : decode b_LP_record 44 = .ok (.iload_n 2, 1) := by decide +kernel
theorem d_LP_record_45 : decode b_LP_record 45 = .ok (.aaload, 1) := by decide +kernel
theorem d_LP_record_46 : decode b_LP_record 46 = .ok (.iload_n 3, 1) := by decide +kernel
theorem d_LP_record_47 : decode b_LP_record 47 = .ok (.invokevirtual 182, 3) := by decide +kernel
theorem d_LP_record_50 : decode b_LP_record 50 = .ok (.ireturn, 1) := by decide +kernel
set_option maxRecDepth 100000 in
set_option maxHeartbeats 4000000 in
theorem c_LP_record (l : Launch) (hlt : l.stackTraces = false) (K : Kx) (V : Vx) (A B C D : MI) (P : MP) (hV : ∀ z, V.2.2 z) (n : Nat) (cs : CS K V P n) (h42 : A 42 0 = nI n) (z y v : Int32) : CtX l K md_LP_record (10, 141) 2 12 [.ref (K.ad 0 0), .int z, .int y, .int v] V (bk4 A B C D) P (fun V' r I' P' => ∃ s a w, s < 2 ∧ z = nI s ∧ a < n ∧ y = nI a ∧ w < 10 ∧ v = nI w ∧ EQ V (some (.int (rtell A (32 * s + a) w))) (bk4 A B C D) P V' r I' P') (¬ (wn z 0 1 ∧ (∃ a, a < n ∧ y = nI a) ∧ wn v 0 9)) := by
  refine ctx_of [(0, .ref (K.ad 0 0)), (1, .int z), (2, .int y), (3, .int v)] (by decide) (Nat.le_of_ble_eq_true rfl) (ca_r (ca_i (ca_i (ca_i ca_n)))) rfl ?_
  intro X hl hXX
  have hX := hXX.1
  have h : OkX X b_LP_record R_LP K := hX.1
  have hN : X.nL = 5 := hX.2.1
  have hlt9 : X.l.stackTraces = false := by rw [hl]; exact hlt
  have hlv := cs_lv cs
  have hhas := has_nat (x := y) (Nat.le_trans (cs_n cs) (by decide))
  refine j_aload_n h d_LP_record_0 rfl ?_
  refine j_iload_n h d_LP_record_1 rfl ?_
  refine jx_callV h (c_LP_serverOf _ hlt9 _ _ _ _ _ _ _ hV _ cs _) d_LP_record_2 ml_LP_63 mv_LP_serverOf (by assumption) ⟨rfl, rfl⟩ rfl rfl (Nat.le_of_ble_eq_true rfl) (hRx hXX (by decide) (by decide)) (hfx hXX (by decide) (by decide)) (fun hx => jx_out hXX (by first | exact absurd hx (by decide) | (clear hX hXX h hl; simp_all [b01_0, wn]; done) | (clear hX hXX h hl; grind [b01_0, wn])) (by decide) (by decide)) ?_
  rintro _ _ _ _ ⟨s, hs, rfl, rfl, rfl, rfl, rfl⟩
  have hsv := cs_sv cs hs
  refine j_astore h d_LP_record_5 (Nat.lt_of_lt_of_eq (m := 5) (by decide) hN.symm) ?_
  refine j_iload_n h d_LP_record_7 rfl ?_
  refine j_iconst (v := 0) h d_LP_record_8 (by decide) ?_
  refine j_aload_n h d_LP_record_9 rfl ?_
  refine j_get0e (v := nI n) h d_LP_record_10 fl_LP_13 rfl (by assumption) h42 ?_
  refine j_iconst (v := 1) h d_LP_record_13 (by decide) ?_
  refine j_isub h d_LP_record_14 ?_
  refine j_callS h (c_LP_isWithin _ _ _ _ _ _ _ _ _ _ _) d_LP_record_15 ml_LP_51 ms_LP_isWithin rfl rfl (Nat.le_of_ble_eq_true rfl) (hRx hXX (by decide) (by decide)) (hfx hXX (by decide) (by decide)) ?_
  rintro _ _ _ _ ⟨rfl, rfl, rfl, rfl⟩
  refine j_if_eq (tgt := 35) h d_LP_record_18 (by decide) (fun c1 => ?_) (fun c1 => ?_)
  · refine j_iconst (v := 0) h d_LP_record_35 (by decide) ?_
    refine jx_callS h (c_LP_need _ hlt9 _ _ _ _ hV _) d_LP_record_36 ml_LP_59 ms_LP_need rfl rfl (Nat.le_of_ble_eq_true rfl) (hRx hXX (by decide) (by decide)) (hfx hXX (by decide) (by decide)) (fun hx => jx_out hXX (by clear hX hXX h hl; first | (simp_all [b01_0, wn]; done) | grind [b01_0, wn]) (by decide) (by decide)) ?_
    rintro _ _ _ _ ⟨⟨rfl, rfl, rfl, rfl⟩, cn36⟩
    exact absurd rfl cn36
  · refine j_iload_n h d_LP_record_21 rfl ?_
    refine j_iconst (v := 0) h d_LP_record_22 (by decide) ?_
    refine j_bipush (v := 9) h d_LP_record_23 (by decide) ?_
    refine j_callS h (c_LP_isWithin _ _ _ _ _ _ _ _ _ _ _) d_LP_record_25 ml_LP_51 ms_LP_isWithin rfl rfl (Nat.le_of_ble_eq_true rfl) (hRx hXX (by decide) (by decide)) (hfx hXX (by decide) (by decide)) ?_
    rintro _ _ _ _ ⟨rfl, rfl, rfl, rfl⟩
    refine j_if_eq (tgt := 35) h d_LP_record_28 (by decide) (fun c2 => ?_) (fun c2 => ?_)
    · refine j_iconst (v := 0) h d_LP_record_35 (by decide) ?_
      refine jx_callS h (c_LP_need _ hlt9 _ _ _ _ hV _) d_LP_record_36 ml_LP_59 ms_LP_need rfl rfl (Nat.le_of_ble_eq_true rfl) (hRx hXX (by decide) (by decide)) (hfx hXX (by decide) (by decide)) (fun hx => jx_out hXX (by clear hX hXX h hl; first | (simp_all [b01_0, wn]; done) | grind [b01_0, wn]) (by decide) (by decide)) ?_
      rintro _ _ _ _ ⟨⟨rfl, rfl, rfl, rfl⟩, cn36⟩
      exact absurd rfl cn36
    · refine j_iconst (v := 1) h d_LP_record_31 (by decide) ?_
      refine j_goto (tgt := 36) h d_LP_record_32 (by decide) ?_
      refine jx_callS h (c_LP_need _ hlt9 _ _ _ _ hV _) d_LP_record_36 ml_LP_59 ms_LP_need rfl rfl (Nat.le_of_ble_eq_true rfl) (hRx hXX (by decide) (by decide)) (hfx hXX (by decide) (by decide)) (fun hx => jx_out hXX (absurd hx (by decide)) (by decide) (by decide)) ?_
      rintro _ _ _ _ ⟨⟨rfl, rfl, rfl, rfl⟩, cn36⟩
      obtain ⟨a, ha, rfl⟩ := hhas.mp (b01_n0 c1)
      obtain ⟨w, hw, rfl⟩ := wn_nat (b := 9) (by decide) (b01_n0 c2)
      have hr := cs_rv cs hs ha
      refine j_aload h d_LP_record_39 rfl ?_
      refine j_getR h d_LP_record_41 fl_LP_178 rfl (by assumption) (cs_rp cs hs) ?_
      refine j_iload_n h d_LP_record_44 rfl ?_
      refine j_recs h cs hs ha d_LP_record_45 ?_
      refine j_iload_n h d_LP_record_46 rfl ?_
      refine j_callV h (c_Rec_tell _ _ _ _ _ _ _ _ _ hr _ hw) d_LP_record_47 ml_LP_182 mv_Rec_tell (by assumption) ⟨rfl, rfl⟩ rfl rfl (Nat.le_of_ble_eq_true rfl) (hRx hXX (by decide) (by decide)) (hfx hXX (by decide) (by decide)) ?_
      rintro _ _ _ _ ⟨rfl, rfl, rfl, rfl⟩
      exact jx_ret hXX (j_iret hX d_LP_record_50 rfl (by decide) (by decide) ⟨s, a, w, hs, rfl, ha, rfl, hw, rfl, rfl, rfl, rfl, rfl⟩)
theorem d_LP_server_0 : decode b_LP_server 0 = .ok (.aload_n 0, 1) := by decide +kernel
theorem d_LP_server_1 : decode b_LP_server 1 = .ok (.iload_n 1, 1) := by decide +kernel
theorem d_LP_server_2 : decode b_LP_server 2 = .ok (.invokevirtual 63, 3) := by decide +kernel
theorem d_LP_server_5 : decode b_LP_server 5 = .ok (.astore_n 3, 1) := by decide +kernel
theorem d_LP_server_6 : decode b_LP_server 6 = .ok (.iload_n 2, 1) := by decide +kernel
theorem d_LP_server_7 : decode b_LP_server 7 = .ok (.iconst 0, 1) := by decide +kernel
theorem d_LP_server_8 : decode b_LP_server 8 = .ok (.bipush 8, 2) := by decide +kernel
theorem d_LP_server_10 : decode b_LP_server 10 = .ok (.invokestatic 51, 3) := by decide +kernel
theorem d_LP_server_13 : decode b_LP_server 13 = .ok (.invokestatic 59, 3) := by decide +kernel
theorem d_LP_server_16 : decode b_LP_server 16 = .ok (.aload_n 3, 1) := by decide +kernel
theorem d_LP_server_17 : decode b_LP_server 17 = .ok (.iload_n 2, 1) := by decide +kernel
theorem d_LP_server_18 : decode b_LP_server 18 = .ok (.aload_n 0, 1) := by decide +kernel
theorem d_LP_server_19 : decode b_LP_server 19 = .ok (.aload_n 3, 1) := by decide +kernel
theorem d_LP_server_20 : decode b_LP_server 20 = .ok (.invokevirtual 89, 3) := by decide +kernel
theorem d_LP_server_23 : decode b_LP_server 23 = .ok (.invokevirtual 185, 3) := by decide +kernel
theorem d_LP_server_26 : decode b_LP_server 26 = .ok (.ireturn, 1) := by decide +kernel
set_option maxRecDepth 100000 in
set_option maxHeartbeats 4000000 in
theorem c_LP_server (l : Launch) (hlt : l.stackTraces = false) (K : Kx) (V : Vx) (A B C D : MI) (P : MP) (hV : ∀ z, V.2.2 z) (n : Nat) (cs : CS K V P n) (z y : Int32) : CtX l K md_LP_server (10, 141) 2 12 [.ref (K.ad 0 0), .int z, .int y] V (bk4 A B C D) P (fun V' r I' P' => ∃ s w, s < 2 ∧ z = nI s ∧ w < 9 ∧ y = nI w ∧ EQ V (some (.int (stell A s n (clk A s) w))) (bk4 A B C D) P V' r I' P') (¬ (wn z 0 1 ∧ wn y 0 8)) := by
  refine ctx_of [(0, .ref (K.ad 0 0)), (1, .int z), (2, .int y)] (by decide) (Nat.le_of_ble_eq_true rfl) (ca_r (ca_i (ca_i ca_n))) rfl ?_
  intro X hl hXX
  have hX := hXX.1
  have h : OkX X b_LP_server R_LP K := hX.1
  have hN : X.nL = 4 := hX.2.1
  have hlt9 : X.l.stackTraces = false := by rw [hl]; exact hlt
  have hlv := cs_lv cs
  refine j_aload_n h d_LP_server_0 rfl ?_
  refine j_iload_n h d_LP_server_1 rfl ?_
  refine jx_callV h (c_LP_serverOf _ hlt9 _ _ _ _ _ _ _ hV _ cs _) d_LP_server_2 ml_LP_63 mv_LP_serverOf (by assumption) ⟨rfl, rfl⟩ rfl rfl (Nat.le_of_ble_eq_true rfl) (hRx hXX (by decide) (by decide)) (hfx hXX (by decide) (by decide)) (fun hx => jx_out hXX (by first | exact absurd hx (by decide) | (clear hX hXX h hl; simp_all [b01_0, wn]; done) | (clear hX hXX h hl; grind [b01_0, wn])) (by decide) (by decide)) ?_
  rintro _ _ _ _ ⟨s, hs, rfl, rfl, rfl, rfl, rfl⟩
  have hsv := cs_sv cs hs
  refine j_astore_n h d_LP_server_5 (Nat.lt_of_lt_of_eq (m := 4) (by decide) hN.symm) ?_
  refine j_iload_n h d_LP_server_6 rfl ?_
  refine j_iconst (v := 0) h d_LP_server_7 (by decide) ?_
  refine j_bipush (v := 8) h d_LP_server_8 (by decide) ?_
  refine j_callS h (c_LP_isWithin _ _ _ _ _ _ _ _ _ _ _) d_LP_server_10 ml_LP_51 ms_LP_isWithin rfl rfl (Nat.le_of_ble_eq_true rfl) (hRx hXX (by decide) (by decide)) (hfx hXX (by decide) (by decide)) ?_
  rintro _ _ _ _ ⟨rfl, rfl, rfl, rfl⟩
  refine jx_callS h (c_LP_need _ hlt9 _ _ _ _ hV _) d_LP_server_13 ml_LP_59 ms_LP_need rfl rfl (Nat.le_of_ble_eq_true rfl) (hRx hXX (by decide) (by decide)) (hfx hXX (by decide) (by decide)) (fun hx => jx_out hXX (by clear hX hXX h hl; first | (simp_all [b01_0, wn]; done) | grind [b01_0, wn]) (by decide) (by decide)) ?_
  rintro _ _ _ _ ⟨⟨rfl, rfl, rfl, rfl⟩, cn13⟩
  obtain ⟨w, hw, rfl⟩ := wn_nat (b := 8) (by decide) (b01_n0 cn13)
  refine j_aload_n h d_LP_server_16 rfl ?_
  refine j_iload_n h d_LP_server_17 rfl ?_
  refine j_aload_n h d_LP_server_18 rfl ?_
  refine j_aload_n h d_LP_server_19 rfl ?_
  refine j_callV h (c_LP_clockOf _ _ _ _ _ _ _ _ hlv _ hsv) d_LP_server_20 ml_LP_89 mv_LP_clockOf (by assumption) ⟨rfl, rfl⟩ rfl rfl (Nat.le_of_ble_eq_true rfl) (hRx hXX (by decide) (by decide)) (hfx hXX (by decide) (by decide)) ?_
  rintro _ _ _ _ ⟨rfl, rfl, rfl, rfl⟩
  refine j_callV h (c_Srv_tell _ _ _ _ _ _ _ _ _ cs _ hs _ _ hw) d_LP_server_23 ml_LP_185 mv_Srv_tell (by assumption) ⟨rfl, rfl⟩ rfl rfl (Nat.le_of_ble_eq_true rfl) (hRx hXX (by decide) (by decide)) (hfx hXX (by decide) (by decide)) ?_
  rintro _ _ _ _ ⟨rfl, rfl, rfl, rfl⟩
  exact jx_ret hXX (j_iret hX d_LP_server_26 rfl (by decide) (by decide) ⟨s, w, hs, rfl, hw, rfl, rfl, rfl, rfl, rfl⟩)
theorem d_LP_client_0 : decode b_LP_client 0 = .ok (.aload_n 0, 1) := by decide +kernel
theorem d_LP_client_1 : decode b_LP_client 1 = .ok (.iload_n 1, 1) := by decide +kernel
theorem d_LP_client_2 : decode b_LP_client 2 = .ok (.invokevirtual 97, 3) := by decide +kernel
theorem d_LP_client_5 : decode b_LP_client 5 = .ok (.astore_n 3, 1) := by decide +kernel
theorem d_LP_client_6 : decode b_LP_client 6 = .ok (.iload_n 2, 1) := by decide +kernel
theorem d_LP_client_7 : decode b_LP_client 7 = .ok (.iconst 0, 1) := by decide +kernel
theorem d_LP_client_8 : decode b_LP_client 8 = .ok (.iconst 2, 1) := by decide +kernel
theorem d_LP_client_9 : decode b_LP_client 9 = .ok (.invokestatic 51, 3) := by decide +kernel
theorem d_LP_client_12 : decode b_LP_client 12 = .ok (.invokestatic 59, 3) := by decide +kernel
theorem d_LP_client_15 : decode b_LP_client 15 = .ok (.iload_n 2, 1) := by decide +kernel
theorem d_LP_client_16 : decode b_LP_client 16 = .ok (.lookupswitch 57 #[(0, 28), (1, 52)], 28) := by decide +kernel
theorem d_LP_client_44 : decode b_LP_client 44 = .ok (.aload_n 3, 1) := by decide +kernel
theorem d_LP_client_45 : decode b_LP_client 45 = .ok (.aload_n 0, 1) := by decide +kernel
theorem d_LP_client_46 : decode b_LP_client 46 = .ok (.getfield 56, 3) := by decide +kernel
theorem d_LP_client_49 : decode b_LP_client 49 = .ok (.aload_n 0, 1) := by decide +kernel
theorem d_LP_client_50 : decode b_LP_client 50 = .ok (.getfield 17, 3) := by decide +kernel
theorem d_LP_client_53 : decode b_LP_client 53 = .ok (.invokevirtual 170, 3) := by decide +kernel
theorem d_LP_client_56 : decode b_LP_client 56 = .ok (.ifCond .eq 10, 3) := by decide +kernel
theorem d_LP_client_59 : decode b_LP_client 59 = .ok (.aload_n 3, 1) := by decide +kernel
theorem d_LP_client_60 : decode b_LP_client 60 = .ok (.getfield 174, 3) := by decide +kernel
theorem d_LP_client_63 : decode b_LP_client 63 = .ok (.goto 4, 3) := by decide +kernel
theorem d_LP_client_66 : decode b_LP_client 66 = .ok (.iconst (-1), 1) := by decide +kernel
theorem d_LP_client_67 : decode b_LP_client 67 = .ok (.ireturn, 1) := by decide +kernel
theorem d_LP_client_68 : decode b_LP_client 68 = .ok (.aload_n 3, 1) := by decide +kernel
theorem d_LP_client_69 : decode b_LP_client 69 = .ok (.getfield 175, 3) := by decide +kernel
theorem d_LP_client_72 : decode b_LP_client 72 = .ok (.ireturn, 1) := by decide +kernel
theorem d_LP_client_73 : decode b_LP_client 73 = .ok (.aload_n 3, 1) := by decide +kernel
theorem d_LP_client_74 : decode b_LP_client 74 = .ok (.getfield 111, 3) := by decide +kernel
theorem d_LP_client_77 : decode b_LP_client 77 = .ok (.ireturn, 1) := by decide +kernel
set_option maxRecDepth 100000 in
set_option maxHeartbeats 4000000 in
theorem c_LP_client (l : Launch) (hlt : l.stackTraces = false) (K : Kx) (V : Vx) (A B C D : MI) (P : MP) (hV : ∀ z, V.2.2 z) (n : Nat) (cs : CS K V P n) (z y : Int32) : CtX l K md_LP_client (10, 141) 2 12 [.ref (K.ad 0 0), .int z, .int y] V (bk4 A B C D) P (fun V' r I' P' => ∃ c w, c < 16 ∧ z = nI c ∧ w < 3 ∧ y = nI w ∧ EQ V (some (.int (ctell A c w))) (bk4 A B C D) P V' r I' P') (¬ (wn z 0 15 ∧ wn y 0 2)) := by
  refine ctx_of [(0, .ref (K.ad 0 0)), (1, .int z), (2, .int y)] (by decide) (Nat.le_of_ble_eq_true rfl) (ca_r (ca_i (ca_i ca_n))) rfl ?_
  intro X hl hXX
  have hX := hXX.1
  have h : OkX X b_LP_client R_LP K := hX.1
  have hN : X.nL = 4 := hX.2.1
  have hlt9 : X.l.stackTraces = false := by rw [hl]; exact hlt
  have hlv := cs_lv cs
  refine j_aload_n h d_LP_client_0 rfl ?_
  refine j_iload_n h d_LP_client_1 rfl ?_
  refine jx_callV h (c_LP_clientOf _ hlt9 _ _ _ _ _ _ _ hV _ cs _) d_LP_client_2 ml_LP_97 mv_LP_clientOf (by assumption) ⟨rfl, rfl⟩ rfl rfl (Nat.le_of_ble_eq_true rfl) (hRx hXX (by decide) (by decide)) (hfx hXX (by decide) (by decide)) (fun hx => jx_out hXX (by first | exact absurd hx (by decide) | (clear hX hXX h hl; simp_all [b01_0, wn]; done) | (clear hX hXX h hl; grind [b01_0, wn])) (by decide) (by decide)) ?_
  rintro _ _ _ _ ⟨c, hc, rfl, rfl, rfl, rfl, rfl⟩
  have hcv := cs_cv cs hc
  refine j_astore_n h d_LP_client_5 (Nat.lt_of_lt_of_eq (m := 4) (by decide) hN.symm) ?_
  refine j_iload_n h d_LP_client_6 rfl ?_
  refine j_iconst (v := 0) h d_LP_client_7 (by decide) ?_
  refine j_iconst (v := 2) h d_LP_client_8 (by decide) ?_
  refine j_callS h (c_LP_isWithin _ _ _ _ _ _ _ _ _ _ _) d_LP_client_9 ml_LP_51 ms_LP_isWithin rfl rfl (Nat.le_of_ble_eq_true rfl) (hRx hXX (by decide) (by decide)) (hfx hXX (by decide) (by decide)) ?_
  rintro _ _ _ _ ⟨rfl, rfl, rfl, rfl⟩
  refine jx_callS h (c_LP_need _ hlt9 _ _ _ _ hV _) d_LP_client_12 ml_LP_59 ms_LP_need rfl rfl (Nat.le_of_ble_eq_true rfl) (hRx hXX (by decide) (by decide)) (hfx hXX (by decide) (by decide)) (fun hx => jx_out hXX (by clear hX hXX h hl; first | (simp_all [b01_0, wn]; done) | grind [b01_0, wn]) (by decide) (by decide)) ?_
  rintro _ _ _ _ ⟨⟨rfl, rfl, rfl, rfl⟩, cn12⟩
  obtain ⟨w, hw, rfl⟩ := wn_nat (b := 2) (by decide) (b01_n0 cn12)
  match w, hw with
  | 0, _ =>
    refine j_iload_n h d_LP_client_15 rfl ?_
    refine j_lookHit (off := 28) (a0 := 0) (tgt := 44) h d_LP_client_16 (by decide +kernel) (by decide +kernel) (by decide) ?_
    refine j_aload_n h d_LP_client_44 rfl ?_
    refine j_aload_n h d_LP_client_45 rfl ?_
    refine j_get0 h d_LP_client_46 fl_LP_56 rfl (by assumption) ?_
    refine j_aload_n h d_LP_client_49 rfl ?_
    refine j_get0 h d_LP_client_50 fl_LP_17 rfl (by assumption) ?_
    refine j_callV h (c_Cli_holds _ _ _ _ _ _ _ _ _ hcv _ _) d_LP_client_53 ml_LP_170 mv_Cli_holds (by assumption) ⟨rfl, rfl⟩ rfl rfl (Nat.le_of_ble_eq_true rfl) (hRx hXX (by decide) (by decide)) (hfx hXX (by decide) (by decide)) ?_
    rintro _ _ _ _ ⟨rfl, rfl, rfl, rfl⟩
    refine j_if_eq (tgt := 66) h d_LP_client_56 (by decide) (fun c1 => ?_) (fun c1 => ?_)
    · refine j_iconst (v := -1) h d_LP_client_66 (by decide) ?_
      exact jx_ret hXX (j_iret hX d_LP_client_67 rfl (by decide) (by decide) ⟨c, 0, hc, rfl, by decide, rfl, rfl, by first | rfl | (clear hX hXX h hl; simp_all [ctell, b01_0]; done) | (clear hX hXX h hl; grind [ctell, b01_0]), rfl, rfl⟩)
    · refine j_aload_n h d_LP_client_59 rfl ?_
      refine j_get0 h d_LP_client_60 fl_LP_174 rfl (by assumption) ?_
      refine j_goto (tgt := 67) h d_LP_client_63 (by decide) ?_
      exact jx_ret hXX (j_iret hX d_LP_client_67 rfl (by decide) (by decide) ⟨c, 0, hc, rfl, by decide, rfl, rfl, by first | rfl | (clear hX hXX h hl; simp_all [ctell, b01_0]; done) | (clear hX hXX h hl; grind [ctell, b01_0]), rfl, rfl⟩)
  | 1, _ =>
    refine j_iload_n h d_LP_client_15 rfl ?_
    refine j_lookHit (off := 52) (a0 := 1) (tgt := 68) h d_LP_client_16 (by decide +kernel) (by decide +kernel) (by decide) ?_
    refine j_aload_n h d_LP_client_68 rfl ?_
    refine j_get0 h d_LP_client_69 fl_LP_175 rfl (by assumption) ?_
    exact jx_ret hXX (j_iret hX d_LP_client_72 rfl (by decide) (by decide) ⟨c, 1, hc, rfl, by decide, rfl, rfl, by first | rfl | (clear hX hXX h hl; simp_all [ctell, b01_0]; done) | (clear hX hXX h hl; grind [ctell, b01_0]), rfl, rfl⟩)
  | 2, _ =>
    refine j_iload_n h d_LP_client_15 rfl ?_
    refine j_lookMiss (tgt := 73) h d_LP_client_16 (by decide +kernel) (by decide +kernel) (by decide) ?_
    refine j_aload_n h d_LP_client_73 rfl ?_
    refine j_get0 h d_LP_client_74 fl_LP_111 rfl (by assumption) ?_
    exact jx_ret hXX (j_iret hX d_LP_client_77 rfl (by decide) (by decide) ⟨c, 2, hc, rfl, by decide, rfl, rfl, by first | rfl | (clear hX hXX h hl; simp_all [ctell, b01_0]; done) | (clear hX hXX h hl; grind [ctell, b01_0]), rfl, rfl⟩)
  | k + 3, hk => exact absurd hk (by omega)
theorem clReq_32 (A : MI) (c : Nat) (k : Int32) : clReq A c k 32 c = A 32 c + 1 := by unfold clReq; split <;> simp [up_rd]
theorem d_LP_ask_0 : decode b_LP_ask 0 = .ok (.aload_n 0, 1) := by decide +kernel
theorem d_LP_ask_1 : decode b_LP_ask 1 = .ok (.iload_n 1, 1) := by decide +kernel
theorem d_LP_ask_2 : decode b_LP_ask 2 = .ok (.invokevirtual 97, 3) := by decide +kernel
theorem d_LP_ask_5 : decode b_LP_ask 5 = .ok (.astore 6, 2) := by decide +kernel
theorem d_LP_ask_7 : decode b_LP_ask 7 = .ok (.iload_n 2, 1) := by decide +kernel
theorem d_LP_ask_8 : decode b_LP_ask 8 = .ok (.iconst 0, 1) := by decide +kernel
theorem d_LP_ask_9 : decode b_LP_ask 9 = .ok (.iconst 2, 1) := by decide +kernel
theorem d_LP_ask_10 : decode b_LP_ask 10 = .ok (.invokestatic 51, 3) := by decide +kernel
theorem d_LP_ask_13 : decode b_LP_ask 13 = .ok (.invokestatic 59, 3) := by decide +kernel
theorem d_LP_ask_16 : decode b_LP_ask 16 = .ok (.iload_n 3, 1) := by decide +kernel
theorem d_LP_ask_17 : decode b_LP_ask 17 = .ok (.iconst 0, 1) := by decide +kernel
theorem d_LP_ask_18 : decode b_LP_ask 18 = .ok (.iconst 1, 1) := by decide +kernel
theorem d_LP_ask_19 : decode b_LP_ask 19 = .ok (.invokestatic 51, 3) := by decide +kernel
theorem d_LP_ask_22 : decode b_LP_ask 22 = .ok (.invokestatic 59, 3) := by decide +kernel
theorem d_LP_ask_25 : decode b_LP_ask 25 = .ok (.iload 4, 2) := by decide +kernel
theorem d_LP_ask_27 : decode b_LP_ask 27 = .ok (.iconst 0, 1) := by decide +kernel
theorem d_LP_ask_28 : decode b_LP_ask 28 = .ok (.aload_n 0, 1) := by decide +kernel
theorem d_LP_ask_29 : decode b_LP_ask 29 = .ok (.getfield 13, 3) := by decide +kernel
theorem d_LP_ask_32 : decode b_LP_ask 32 = .ok (.iconst 1, 1) := by decide +kernel
theorem d_LP_ask_33 : decode b_LP_ask 33 = .ok (.isub, 1) := by decide +kernel
theorem d_LP_ask_34 : decode b_LP_ask 34 = .ok (.invokestatic 51, 3) := by decide +kernel
theorem d_LP_ask_37 : decode b_LP_ask 37 = .ok (.invokestatic 59, 3) := by decide +kernel
theorem d_LP_ask_40 : decode b_LP_ask 40 = .ok (.iload 5, 2) := by decide +kernel
theorem d_LP_ask_42 : decode b_LP_ask 42 = .ok (.iconst 1, 1) := by decide +kernel
theorem d_LP_ask_43 : decode b_LP_ask 43 = .ok (.ldc 50, 2) := by decide +kernel
theorem d_LP_ask_45 : decode b_LP_ask 45 = .ok (.invokestatic 51, 3) := by decide +kernel
theorem d_LP_ask_48 : decode b_LP_ask 48 = .ok (.invokestatic 59, 3) := by decide +kernel
theorem d_LP_ask_51 : decode b_LP_ask 51 = .ok (.aload 6, 2) := by decide +kernel
theorem d_LP_ask_53 : decode b_LP_ask 53 = .ok (.iload_n 2, 1) := by decide +kernel
theorem d_LP_ask_54 : decode b_LP_ask 54 = .ok (.invokevirtual 101, 3) := by decide +kernel
theorem d_LP_ask_57 : decode b_LP_ask 57 = .ok (.aload_n 0, 1) := by decide +kernel
theorem d_LP_ask_58 : decode b_LP_ask 58 = .ok (.getfield 39, 3) := by decide +kernel
theorem d_LP_ask_61 : decode b_LP_ask 61 = .ok (.iconst 0, 1) := by decide +kernel
theorem d_LP_ask_62 : decode b_LP_ask 62 = .ok (.iload_n 1, 1) := by decide +kernel
theorem d_LP_ask_63 : decode b_LP_ask 63 = .ok (.iload_n 3, 1) := by decide +kernel
theorem d_LP_ask_64 : decode b_LP_ask 64 = .ok (.invokevirtual 104, 3) := by decide +kernel
theorem d_LP_ask_67 : decode b_LP_ask 67 = .ok (.astore 7, 2) := by decide +kernel
theorem d_LP_ask_69 : decode b_LP_ask 69 = .ok (.aload 7, 2) := by decide +kernel
theorem d_LP_ask_71 : decode b_LP_ask 71 = .ok (.iload_n 2, 1) := by decide +kernel
theorem d_LP_ask_72 : decode b_LP_ask 72 = .ok (.putfield 108, 3) := by decide +kernel
theorem d_LP_ask_75 : decode b_LP_ask 75 = .ok (.aload 7, 2) := by decide +kernel
theorem d_LP_ask_77 : decode b_LP_ask 77 = .ok (.aload 6, 2) := by decide +kernel
theorem d_LP_ask_79 : decode b_LP_ask 79 = .ok (.getfield 111, 3) := by decide +kernel
theorem d_LP_ask_82 : decode b_LP_ask 82 = .ok (.putfield 114, 3) := by decide +kernel
theorem d_LP_ask_85 : decode b_LP_ask 85 = .ok (.iload_n 2, 1) := by decide +kernel
theorem d_LP_ask_86 : decode b_LP_ask 86 = .ok (.ifCond .eq 10, 3) := by decide +kernel
theorem d_LP_ask_89 : decode b_LP_ask 89 = .ok (.aload 7, 2) := by decide +kernel
theorem d_LP_ask_91 : decode b_LP_ask 91 = .ok (.iload 4, 2) := by decide +kernel
theorem d_LP_ask_93 : decode b_LP_ask 93 = .ok (.putfield 117, 3) := by decide +kernel
theorem d_LP_ask_96 : decode b_LP_ask 96 = .ok (.iload_n 2, 1) := by decide +kernel
theorem d_LP_ask_97 : decode b_LP_ask 97 = .ok (.iconst 2, 1) := by decide +kernel
theorem d_LP_ask_98 : decode b_LP_ask 98 = .ok (.if_icmp .eq 10, 3) := by decide +kernel
theorem d_LP_ask_101 : decode b_LP_ask 101 = .ok (.aload 7, 2) := by decide +kernel
theorem d_LP_ask_103 : decode b_LP_ask 103 = .ok (.iload 5, 2) := by decide +kernel
theorem d_LP_ask_105 : decode b_LP_ask 105 = .ok (.putfield 120, 3) := by decide +kernel
theorem d_LP_ask_108 : decode b_LP_ask 108 = .ok (.aload 6, 2) := by decide +kernel
theorem d_LP_ask_110 : decode b_LP_ask 110 = .ok (.getfield 111, 3) := by decide +kernel
theorem d_LP_ask_113 : decode b_LP_ask 113 = .ok (.ireturn, 1) := by decide +kernel
set_option maxRecDepth 100000 in
set_option maxHeartbeats 4000000 in
theorem c_LP_ask (l : Launch) (hlt : l.stackTraces = false) (K : Kx) (V : Vx) (A B C D : MI) (P : MP) (hV : ∀ z, V.2.2 z) (n : Nat) (cs : CS K V P n) (ld sk : Int32) (N T : List Msg) (U : Msg) (hnc : NC K P B ld sk N T U) (h42 : A 42 0 = nI n) (z0 z1 z2 z3 z4 : Int32) : CtX l K md_LP_ask (10, 141) 5 30 [.ref (K.ad 0 0), .int z0, .int z1, .int z2, .int z3, .int z4] V (bk4 A B C D) P (fun V' r I' P' => ∃ c s a, c < 16 ∧ z0 = nI c ∧ wn z1 0 2 ∧ s < 2 ∧ z2 = nI s ∧ a < n ∧ z3 = nI a ∧ wn z4 1 100000 ∧ NP K V C D P ld sk (some (.int (A 32 c + 1))) (clReq A c z1) (netput (m_req A c s a z1 z4) N) T U V' r I' P') (¬ (wn z0 0 15 ∧ wn z1 0 2 ∧ wn z2 0 1 ∧ (∃ a, a < n ∧ z3 = nI a) ∧ wn z4 1 100000)) := by
  refine ctx_of [(0, .ref (K.ad 0 0)), (1, .int z0), (2, .int z1), (3, .int z2), (4, .int z3), (5, .int z4)] (by decide) (Nat.le_of_ble_eq_true rfl) (ca_r (ca_i (ca_i (ca_i (ca_i (ca_i ca_n)))))) rfl ?_
  intro X hl hXX
  have hX := hXX.1
  have h : OkX X b_LP_ask R_LP K := hX.1
  have hN : X.nL = 8 := hX.2.1
  have hlt9 : X.l.stackTraces = false := by rw [hl]; exact hlt
  have hlv := cs_lv cs
  obtain ⟨kb, t, g, f, ft, nw⟩ := id hnc
  have rg := nw.1
  have hnv := cs_nv cs
  have hq0 : adq g t f N.length < 600 := (rg.2.2.2.2.2.2.2.1 t _ rg.1 (Nat.mod_lt _ (by decide))).2
  have hqv : V.1 5 (adq g t f N.length) := cs_mv cs (Nat.lt_succ_of_lt hq0)
  have hz91 := nw.2.2.2.2.2.2 _ (Nat.lt_succ_of_lt hq0)
  have hhas := has_nat (x := z3) (Nat.le_trans (cs_n cs) (by decide))
  refine j_aload_n h d_LP_ask_0 rfl ?_
  refine j_iload_n h d_LP_ask_1 rfl ?_
  refine jx_callV h (c_LP_clientOf _ hlt9 _ _ _ _ _ _ _ hV _ cs _) d_LP_ask_2 ml_LP_97 mv_LP_clientOf (by assumption) ⟨rfl, rfl⟩ rfl rfl (Nat.le_of_ble_eq_true rfl) (hRx hXX (by decide) (by decide)) (hfx hXX (by decide) (by decide)) (fun hx => jx_out hXX (by first | exact absurd hx (by decide) | (clear hX hXX h hl; simp_all [b01_0, wn]; done) | (clear hX hXX h hl; grind [b01_0, wn])) (by decide) (by decide)) ?_
  rintro _ _ _ _ ⟨c, hc, rfl, rfl, rfl, rfl, rfl⟩
  have hcv := cs_cv cs hc
  refine j_astore h d_LP_ask_5 (Nat.lt_of_lt_of_eq (m := 8) (by decide) hN.symm) ?_
  refine j_iload_n h d_LP_ask_7 rfl ?_
  refine j_iconst (v := 0) h d_LP_ask_8 (by decide) ?_
  refine j_iconst (v := 2) h d_LP_ask_9 (by decide) ?_
  refine j_callS h (c_LP_isWithin _ _ _ _ _ _ _ _ _ _ _) d_LP_ask_10 ml_LP_51 ms_LP_isWithin rfl rfl (Nat.le_of_ble_eq_true rfl) (hRx hXX (by decide) (by decide)) (hfx hXX (by decide) (by decide)) ?_
  rintro _ _ _ _ ⟨rfl, rfl, rfl, rfl⟩
  refine jx_callS h (c_LP_need _ hlt9 _ _ _ _ hV _) d_LP_ask_13 ml_LP_59 ms_LP_need rfl rfl (Nat.le_of_ble_eq_true rfl) (hRx hXX (by decide) (by decide)) (hfx hXX (by decide) (by decide)) (fun hx => jx_out hXX (by clear hX hXX h hl; first | (simp_all [b01_0, wn]; done) | grind [b01_0, wn]) (by decide) (by decide)) ?_
  rintro _ _ _ _ ⟨⟨rfl, rfl, rfl, rfl⟩, cn13⟩
  have hk1 : wn z1 0 2 := by have e := b01_n0 cn13; exact e
  refine j_iload_n h d_LP_ask_16 rfl ?_
  refine j_iconst (v := 0) h d_LP_ask_17 (by decide) ?_
  refine j_iconst (v := 1) h d_LP_ask_18 (by decide) ?_
  refine j_callS h (c_LP_isWithin _ _ _ _ _ _ _ _ _ _ _) d_LP_ask_19 ml_LP_51 ms_LP_isWithin rfl rfl (Nat.le_of_ble_eq_true rfl) (hRx hXX (by decide) (by decide)) (hfx hXX (by decide) (by decide)) ?_
  rintro _ _ _ _ ⟨rfl, rfl, rfl, rfl⟩
  refine jx_callS h (c_LP_need _ hlt9 _ _ _ _ hV _) d_LP_ask_22 ml_LP_59 ms_LP_need rfl rfl (Nat.le_of_ble_eq_true rfl) (hRx hXX (by decide) (by decide)) (hfx hXX (by decide) (by decide)) (fun hx => jx_out hXX (by clear hX hXX h hl; first | (simp_all [b01_0, wn]; done) | grind [b01_0, wn]) (by decide) (by decide)) ?_
  rintro _ _ _ _ ⟨⟨rfl, rfl, rfl, rfl⟩, cn22⟩
  obtain ⟨s, hs, rfl⟩ := wn_nat (b := 1) (by decide) (b01_n0 cn22)
  refine j_iload h d_LP_ask_25 rfl ?_
  refine j_iconst (v := 0) h d_LP_ask_27 (by decide) ?_
  refine j_aload_n h d_LP_ask_28 rfl ?_
  refine j_get0e (v := nI n) h d_LP_ask_29 fl_LP_13 rfl (by assumption) h42 ?_
  refine j_iconst (v := 1) h d_LP_ask_32 (by decide) ?_
  refine j_isub h d_LP_ask_33 ?_
  refine j_callS h (c_LP_isWithin _ _ _ _ _ _ _ _ _ _ _) d_LP_ask_34 ml_LP_51 ms_LP_isWithin rfl rfl (Nat.le_of_ble_eq_true rfl) (hRx hXX (by decide) (by decide)) (hfx hXX (by decide) (by decide)) ?_
  rintro _ _ _ _ ⟨rfl, rfl, rfl, rfl⟩
  refine jx_callS h (c_LP_need _ hlt9 _ _ _ _ hV _) d_LP_ask_37 ml_LP_59 ms_LP_need rfl rfl (Nat.le_of_ble_eq_true rfl) (hRx hXX (by decide) (by decide)) (hfx hXX (by decide) (by decide)) (fun hx => jx_out hXX (by clear hX hXX h hl; first | (simp_all [b01_0, wn]; done) | grind [b01_0, wn]) (by decide) (by decide)) ?_
  rintro _ _ _ _ ⟨⟨rfl, rfl, rfl, rfl⟩, cn37⟩
  obtain ⟨a, ha, rfl⟩ := hhas.mp (b01_n0 cn37)
  refine j_iload h d_LP_ask_40 rfl ?_
  refine j_iconst (v := 1) h d_LP_ask_42 (by decide) ?_
  refine j_ldc h d_LP_ask_43 wc_LP_50 ?_
  refine j_callS h (c_LP_isWithin _ _ _ _ _ _ _ _ _ _ _) d_LP_ask_45 ml_LP_51 ms_LP_isWithin rfl rfl (Nat.le_of_ble_eq_true rfl) (hRx hXX (by decide) (by decide)) (hfx hXX (by decide) (by decide)) ?_
  rintro _ _ _ _ ⟨rfl, rfl, rfl, rfl⟩
  refine jx_callS h (c_LP_need _ hlt9 _ _ _ _ hV _) d_LP_ask_48 ml_LP_59 ms_LP_need rfl rfl (Nat.le_of_ble_eq_true rfl) (hRx hXX (by decide) (by decide)) (hfx hXX (by decide) (by decide)) (fun hx => jx_out hXX (by clear hX hXX h hl; first | (simp_all [b01_0, wn]; done) | grind [b01_0, wn]) (by decide) (by decide)) ?_
  rintro _ _ _ _ ⟨⟨rfl, rfl, rfl, rfl⟩, cn48⟩
  have hk4 : wn z4 1 100000 := by have e := b01_n0 cn48; exact e
  refine j_aload h d_LP_ask_51 rfl ?_
  refine j_iload_n h d_LP_ask_53 rfl ?_
  refine j_callV h (c_Cli_request _ _ _ _ _ _ _ _ _ hcv _) d_LP_ask_54 ml_LP_101 mv_Cli_request (by assumption) ⟨rfl, rfl⟩ rfl rfl (Nat.le_of_ble_eq_true rfl) (hRx hXX (by decide) (by decide)) (hfx hXX (by decide) (by decide)) ?_
  rintro _ _ _ _ ⟨rfl, rfl, rfl, rfl⟩
  refine j_aload_n h d_LP_ask_57 rfl ?_
  refine j_getR h d_LP_ask_58 fl_LP_39 rfl (by assumption) (cs_p2 cs) ?_
  refine j_iconst (v := 0) h d_LP_ask_61 (by decide) ?_
  refine j_iload_n h d_LP_ask_62 rfl ?_
  refine j_iload_n h d_LP_ask_63 rfl ?_
  refine j_callV h (c_Net_add _ _ _ _ _ _ _ _ _ cs _ _ _ _ rg _ _ _) d_LP_ask_64 ml_LP_104 mv_Net_add (by assumption) ⟨rfl, rfl⟩ rfl rfl (Nat.le_of_ble_eq_true rfl) (hRx hXX (by decide) (by decide)) (hfx hXX (by decide) (by decide)) ?_
  rintro _ _ _ _ ⟨rfl, rfl, rfl, rfl⟩
  refine j_astore h d_LP_ask_67 (Nat.lt_of_lt_of_eq (m := 8) (by decide) hN.symm) ?_
  refine j_aload h d_LP_ask_69 rfl ?_
  refine j_iload_n h d_LP_ask_71 rfl ?_
  refine j_put1 h d_LP_ask_72 fw_LP_108 rfl rfl (by assumption) ?_
  refine j_aload h d_LP_ask_75 rfl ?_
  refine j_aload h d_LP_ask_77 rfl ?_
  refine j_get0e (v := A 32 c + 1) h d_LP_ask_79 fl_LP_111 rfl (by assumption) (clReq_32 A c z1) ?_
  refine j_put1 h d_LP_ask_82 fw_LP_114 rfl rfl (by assumption) ?_
  refine j_iload_n h d_LP_ask_85 rfl ?_
  refine j_if_eq (tgt := 96) h d_LP_ask_86 (by decide) (fun c1 => ?_) (fun c1 => ?_)
  · refine j_iload_n h d_LP_ask_96 rfl ?_
    refine j_iconst (v := 2) h d_LP_ask_97 (by decide) ?_
    refine j_ic_eq (tgt := 108) h d_LP_ask_98 (by decide) (fun c2 => ?_) (fun c2 => ?_)
    · refine j_aload h d_LP_ask_108 rfl ?_
      refine j_get0e (v := A 32 c + 1) h d_LP_ask_110 fl_LP_111 rfl (by assumption) (clReq_32 A c z1) ?_
      exact jx_ret hXX (j_iret hX d_LP_ask_113 rfl (by decide) (by decide) ⟨c, s, a, hc, rfl, hk1, hs, rfl, ha, rfl, hk4, rfl, rfl, rfl, _, rfl, NC_add kb nw (by repeat (first | exact oq_b _ _ _ _ _ | refine oq_u (by decide) ?_)) (by
      refine ⟨fun w hw => ?_, fun h3 => ?_, fun h4 => ?_⟩
      · rcases (show w = 0 ∨ w = 1 ∨ w = 2 ∨ w = 3 ∨ w = 4 ∨ w = 5 ∨ w = 6 by omega) with rfl | rfl | rfl | rfl | rfl | rfl | rfl <;> first | (simp [up_rd, mB_rd, m_req, mk7, *]; done) | exact absurd (c1.symm.trans c2) (by decide)
      · exact absurd h3 (show ¬ (0 : Int32) = 3 by decide)
      · exact absurd h4 (show ¬ (0 : Int32) = 4 by decide)) (by simpa [up_rd, mB_rd, adB_k] using hz91)⟩)
    · refine j_aload h d_LP_ask_101 rfl ?_
      refine j_iload h d_LP_ask_103 rfl ?_
      refine j_put1 h d_LP_ask_105 fw_LP_120 rfl rfl (by assumption) ?_
      refine j_aload h d_LP_ask_108 rfl ?_
      refine j_get0e (v := A 32 c + 1) h d_LP_ask_110 fl_LP_111 rfl (by assumption) (clReq_32 A c z1) ?_
      exact jx_ret hXX (j_iret hX d_LP_ask_113 rfl (by decide) (by decide) ⟨c, s, a, hc, rfl, hk1, hs, rfl, ha, rfl, hk4, rfl, rfl, rfl, _, rfl, NC_add kb nw (by repeat (first | exact oq_b _ _ _ _ _ | refine oq_u (by decide) ?_)) (by
      refine ⟨fun w hw => ?_, fun h3 => ?_, fun h4 => ?_⟩
      · rcases (show w = 0 ∨ w = 1 ∨ w = 2 ∨ w = 3 ∨ w = 4 ∨ w = 5 ∨ w = 6 by omega) with rfl | rfl | rfl | rfl | rfl | rfl | rfl <;> first | (simp [up_rd, mB_rd, m_req, mk7, *]; done) | exact absurd (c1.symm.trans c2) (by decide)
      · exact absurd h3 (show ¬ (0 : Int32) = 3 by decide)
      · exact absurd h4 (show ¬ (0 : Int32) = 4 by decide)) (by simpa [up_rd, mB_rd, adB_k] using hz91)⟩)
  · refine j_aload h d_LP_ask_89 rfl ?_
    refine j_iload h d_LP_ask_91 rfl ?_
    refine j_put1 h d_LP_ask_93 fw_LP_117 rfl rfl (by assumption) ?_
    refine j_iload_n h d_LP_ask_96 rfl ?_
    refine j_iconst (v := 2) h d_LP_ask_97 (by decide) ?_
    refine j_ic_eq (tgt := 108) h d_LP_ask_98 (by decide) (fun c3 => ?_) (fun c3 => ?_)
    · refine j_aload h d_LP_ask_108 rfl ?_
      refine j_get0e (v := A 32 c + 1) h d_LP_ask_110 fl_LP_111 rfl (by assumption) (clReq_32 A c z1) ?_
      exact jx_ret hXX (j_iret hX d_LP_ask_113 rfl (by decide) (by decide) ⟨c, s, a, hc, rfl, hk1, hs, rfl, ha, rfl, hk4, rfl, rfl, rfl, _, rfl, NC_add kb nw (by repeat (first | exact oq_b _ _ _ _ _ | refine oq_u (by decide) ?_)) (by
      refine ⟨fun w hw => ?_, fun h3 => ?_, fun h4 => ?_⟩
      · rcases (show w = 0 ∨ w = 1 ∨ w = 2 ∨ w = 3 ∨ w = 4 ∨ w = 5 ∨ w = 6 by omega) with rfl | rfl | rfl | rfl | rfl | rfl | rfl <;> first | (simp [up_rd, mB_rd, m_req, mk7, *]; done) | exact absurd (c1.symm.trans c2) (by decide)
      · exact absurd h3 (show ¬ (0 : Int32) = 3 by decide)
      · exact absurd h4 (show ¬ (0 : Int32) = 4 by decide)) (by simpa [up_rd, mB_rd, adB_k] using hz91)⟩)
    · refine j_aload h d_LP_ask_101 rfl ?_
      refine j_iload h d_LP_ask_103 rfl ?_
      refine j_put1 h d_LP_ask_105 fw_LP_120 rfl rfl (by assumption) ?_
      refine j_aload h d_LP_ask_108 rfl ?_
      refine j_get0e (v := A 32 c + 1) h d_LP_ask_110 fl_LP_111 rfl (by assumption) (clReq_32 A c z1) ?_
      exact jx_ret hXX (j_iret hX d_LP_ask_113 rfl (by decide) (by decide) ⟨c, s, a, hc, rfl, hk1, hs, rfl, ha, rfl, hk4, rfl, rfl, rfl, _, rfl, NC_add kb nw (by repeat (first | exact oq_b _ _ _ _ _ | refine oq_u (by decide) ?_)) (by
      refine ⟨fun w hw => ?_, fun h3 => ?_, fun h4 => ?_⟩
      · rcases (show w = 0 ∨ w = 1 ∨ w = 2 ∨ w = 3 ∨ w = 4 ∨ w = 5 ∨ w = 6 by omega) with rfl | rfl | rfl | rfl | rfl | rfl | rfl <;> first | (simp [up_rd, mB_rd, m_req, mk7, *]; done) | exact absurd (c1.symm.trans c2) (by decide)
      · exact absurd h3 (show ¬ (0 : Int32) = 3 by decide)
      · exact absurd h4 (show ¬ (0 : Int32) = 4 by decide)) (by simpa [up_rd, mB_rd, adB_k] using hz91)⟩)
