/-! the law from its entry -/
section JLW
variable {X : Jx} {K : Kx} {V V' : Vx} {I : MI3} {P : MP} {cells slots pc : Nat} {lv : List (Nat × Value)} {st : List Value}
theorem j_Vw (h1 : ∀ c i, V'.1 c i → V.1 c i) (h2 : ∀ a, V'.2.1 a → V.2.1 a) (h3 : ∀ z, V.2.2 z → V'.2.2 z) (k : J X K V' I P cells slots pc lv st) : J X K V I P cells slots pc lv st := by
  intro H locs ls a b e f g
  exact k H locs ls ⟨fun c i hv => a.1 c i (h1 c i hv), fun c hc => a.2.1 c (h2 c hc), h3 _ a.2.2⟩ b e f g
end JLW
theorem jl_ret {p : Program} {l : Launch} {e : Env} {s : State} {m : MethodId} {below : List Frame} {meth : Method} {c : Code} {b : Nat} {K : Kx} {V : Vx} {I : MI3} {P : MP} {kc ks pc : Nat} {lv : List (Nat × Value)} (hx : p.tables.exec = Jvm.exec) (hb : c.code = code) (hr : meth.sig.returnType = ret) (hlocks : meth.locks = false) (hB : K.base = s.heap.size) (hdg : decode code pc = .ok (.ireturn, 1)) (h1 : kc ≤ 601024) (h2 : ks ≤ 7293000) :
    J (p, l, e, room_1, s, m, #[Value.ref b], below, meth, c, lw_Z below #[Value.ref b] s, 7) K V I P kc ks pc lv [.int 1] := by
  intro H locs ls a b' e' f g
  refine W.widen h1 h2 (va_forget (fun q hq => ?_) (lw_ret hx hb hr hlocks hdg))
  rw [← hB]
  exact f q hq
theorem clampN (x : Int32) : ∃ n, (2 ≤ n ∧ n ≤ 32) ∧ ls_ (gr x 2) 32 = nI n := by
  by_cases h1 : (2 : Int32) ≤ x
  · by_cases h2 : x ≤ (32 : Int32)
    · obtain ⟨j, hj, e⟩ := nI_of2 (x := x) (M := 32) (n := 32) rfl (fun q => by
        rw [Int32.le_iff_toInt_le] at h1
        rw [Int32.lt_iff_toInt_lt] at q
        have e1 : (2 : Int32).toInt = 2 := rfl
        have e2 : (0 : Int32).toInt = 0 := rfl
        omega) h2
      refine ⟨j, ⟨?_, hj⟩, ?_⟩
      · rw [e, Int32.le_iff_toInt_le, nI_toInt (by omega)] at h1
        have e1 : (2 : Int32).toInt = 2 := rfl
        omega
      · rw [← cl_in h1 h2, e]
    · exact ⟨32, by decide, (cl_hi h1 h2).symm⟩
  · exact ⟨2, by decide, (cl_lo (by decide) h1).symm⟩
theorem lpP_hi (K : Kx) (n : Nat) {col i : Nat} (h : 20 ≤ col) : lpP K P00 n col i = none := by
  unfold lpP netPP
  rw [up_c _ _ (by omega), up_c _ _ (by omega), netP_c K _ (by omega) (by omega), up_c _ _ (by omega), up_c _ _ (by omega), cliP_c K _ (by omega), up_c _ _ (by omega), up_c _ _ (by omega), srvP_c K _ _ _ (by omega) (Or.inl (by omega)), up_c _ _ (by omega), srvP_c K _ _ _ (by omega) (Or.inl (by omega)), up_c _ _ (by omega)]
  rfl
theorem lp_df {A B C D : MI} {P : MP} {r : Nat} (h : ∀ col, col ≠ 43 → A col r = 0) (hp : ∀ col, P col r = none) : ∀ j, j < 8 → defaultValue (ftyp 0 j) = fval (bk4 A B C D) P (cinf 0 j) r := by
  intro j hj
  match j, hj with
  | 0, _ => exact congrArg Value.int (h 42 (by decide)).symm
  | 1, _ => exact congrArg Value.int (h 44 (by decide)).symm
  | 2, _ => exact congrArg va_rf (hp 0).symm
  | 3, _ => exact congrArg va_rf (hp 1).symm
  | 4, _ => exact congrArg va_rf (hp 2).symm
  | 5, _ => exact congrArg va_rf (hp 3).symm
  | 6, _ => exact congrArg Value.int (h 40 (by decide)).symm
  | 7, _ => exact congrArg Value.int (h 41 (by decide)).symm
  | k + 8, hk => exact absurd hk (by omega)
theorem mod_df {A B C D : MI} {P : MP} {r : Nat} (h : ∀ col, C col r = 0) (hd : ∀ col, D col r = 0) (hp : ∀ col, 20 ≤ col → P col r = none) : ∀ j, j < 36 → defaultValue (ftyp 6 j) = fval (bk4 A B C D) P (cinf 6 j) r := by
  intro j hj
  match j, hj with
  | 0, _ => exact congrArg Value.int (hd 70).symm
  | 1, _ => exact congrArg Value.int (h 42).symm
  | 2, _ => exact congrArg Value.int (h 43).symm
  | 3, _ => exact congrArg Value.int (h 44).symm
  | 4, _ => exact congrArg Value.int (h 40).symm
  | 5, _ => exact congrArg va_rf (hp 20 (by decide)).symm
  | 6, _ => exact congrArg va_rf (hp 21 (by decide)).symm
  | 7, _ => exact congrArg va_rf (hp 22 (by decide)).symm
  | 8, _ => exact congrArg va_rf (hp 23 (by decide)).symm
  | 9, _ => exact congrArg va_rf (hp 24 (by decide)).symm
  | 10, _ => exact congrArg va_rf (hp 25 (by decide)).symm
  | 11, _ => exact congrArg va_rf (hp 26 (by decide)).symm
  | 12, _ => exact congrArg va_rf (hp 27 (by decide)).symm
  | 13, _ => exact congrArg va_rf (hp 28 (by decide)).symm
  | 14, _ => exact congrArg va_rf (hp 29 (by decide)).symm
  | 15, _ => exact congrArg va_rf (hp 30 (by decide)).symm
  | 16, _ => exact congrArg va_rf (hp 31 (by decide)).symm
  | 17, _ => exact congrArg va_rf (hp 32 (by decide)).symm
  | 18, _ => exact congrArg va_rf (hp 33 (by decide)).symm
  | 19, _ => exact congrArg va_rf (hp 34 (by decide)).symm
  | 20, _ => exact congrArg va_rf (hp 35 (by decide)).symm
  | 21, _ => exact congrArg va_rf (hp 36 (by decide)).symm
  | 22, _ => exact congrArg va_rf (hp 37 (by decide)).symm
  | 23, _ => exact congrArg va_rf (hp 38 (by decide)).symm
  | 24, _ => exact congrArg va_rf (hp 39 (by decide)).symm
  | 25, _ => exact congrArg va_rf (hp 40 (by decide)).symm
  | 26, _ => exact congrArg va_rf (hp 41 (by decide)).symm
  | 27, _ => exact congrArg va_rf (hp 42 (by decide)).symm
  | 28, _ => exact congrArg va_rf (hp 43 (by decide)).symm
  | 29, _ => exact congrArg va_rf (hp 44 (by decide)).symm
  | 30, _ => exact congrArg Value.int (h 41).symm
  | 31, _ => exact congrArg Value.int (hd 71).symm
  | 32, _ => exact congrArg va_rf (hp 45 (by decide)).symm
  | 33, _ => exact congrArg va_rf (hp 46 (by decide)).symm
  | 34, _ => exact congrArg va_rf (hp 47 (by decide)).symm
  | 35, _ => exact congrArg va_rf (hp 48 (by decide)).symm
  | k + 36, hk => exact absurd hk (by omega)
theorem ad_hi {K : Kx} {n c i : Nat} (kf : KF K n) (h : K.pv c i) : K.ad c i < K.base + 657 + 2 * n + 1 := by
  have hn := kf.1
  rw [kf.2.2.2.2.1] at h
  rw [kf.2.1]
  match c, h with
  | 0, h => simp only [kad]; omega
  | 1, h => simp only [kad]; split <;> omega
  | 2, h => simp only [kpv] at h; simp only [kad]; split <;> omega
  | 3, h => simp only [kpv] at h; simp only [kad]; omega
  | 4, h => simp only [kad]; omega
  | 5, h => simp only [kpv] at h; simp only [kad]; omega
  | 6, h => simp only [kad]; omega
  | c + 7, h => exact h.elim
theorem aad_hi {K : Kx} {n a : Nat} (kf : KF K n) (h : K.pa a) : K.aad a < K.base + 657 + 2 * n + 1 := by
  have hn := kf.1
  rw [kf.2.2.2.2.2] at h
  rw [kf.2.2.1]
  unfold kpa at h
  unfold kaad
  repeat' split
  all_goals omega
set_option maxRecDepth 100000 in
set_option maxHeartbeats 4000000 in
theorem law_entry {X : Jx} {K : Kx} {n b L : Nat} {xs : Nat → Int32} (E : LawE X K n b L xs) (hn : ls_ (gr (scl xs L 0) 2) 32 = nI n) (hend : ∀ (kc ks : Nat) (V : Vx) (I : MI3) (P : MP) (lv : List (Nat × Value)), kc ≤ 601024 → ks ≤ 7293000 → J X K V I P kc ks 1253 lv []) : J X K (Vz K K.base) (bk4 (A00 (ls_ (gr (scl xs L 1) 1) 10000)) Z00 Z00 Z00) P00 0 0 0 [(0, .ref b)] [] := by
  have E0 := E
  obtain ⟨h, hN, hR, hlt, kf, hS, hbl, hL⟩ := E0
  have hn32 := kf.1
  have h00 := (kf_lp kf).1.2
  have h60 := (kf_mod kf).2
  have h40 := (kf_out kf).1
  refine z_new (ci := 0) (i := 0) (m := 8) h d_Law_law_0 rfl rfl wcl_Law_8 win_LP wit_LP h00 (kf_lp kf).1.1 (lp_df (fun col hc => up_c _ _ hc) (fun col => rfl)) (hfl hR (by omega) (by omega)) ?_
  refine j_dup h d_Law_law_3 rfl ?_
  refine j_aload_n h d_Law_law_4 rfl ?_
  refine j_iconst (v := nI 0) h d_Law_law_5 (by decide +kernel) ?_
  refine js_callS h hS hbl (c_Law_cell X.l K _ _ _ b L xs hL 0 (by decide)) d_Law_law_6 ml_Law_65 ms_Law_cell rfl rfl (Nat.le_of_ble_eq_true rfl) (hRl hR (by decide) (by decide)) (hfl hR (by omega) (by omega)) ?_
  rintro _ _ _ _ ⟨rfl, rfl, rfl, rfl⟩
  refine j_aload_n h d_Law_law_9 rfl ?_
  refine j_iconst (v := nI 1) h d_Law_law_10 (by decide +kernel) ?_
  refine js_callS h hS hbl (c_Law_cell X.l K _ _ _ b L xs hL 1 (by decide)) d_Law_law_11 ml_Law_65 ms_Law_cell rfl rfl (Nat.le_of_ble_eq_true rfl) (hRl hR (by decide) (by decide)) (hfl hR (by omega) (by omega)) ?_
  rintro _ _ _ _ ⟨rfl, rfl, rfl, rfl⟩
  refine j_aload_n h d_Law_law_14 rfl ?_
  refine j_iconst (v := nI 2) h d_Law_law_15 (by decide +kernel) ?_
  refine js_callS h hS hbl (c_Law_cell X.l K _ _ _ b L xs hL 2 (by decide)) d_Law_law_16 ml_Law_65 ms_Law_cell rfl rfl (Nat.le_of_ble_eq_true rfl) (hRl hR (by decide) (by decide)) (hfl hR (by omega) (by omega)) ?_
  rintro _ _ _ _ ⟨rfl, rfl, rfl, rfl⟩
  refine j_callI h (c_LP_init X.l K n kf _ _ _ _ _ (scl xs L 0) (scl xs L 1) (scl xs L 2) hn (fun col hc i => up_c _ _ (by omega)) (fun col i => rfl) (fun col j => rfl)) d_Law_law_19 ml_Law_71 mo_LP_init rfl rfl rfl rfl (Nat.le_of_ble_eq_true rfl) (hRl hR (by decide) (by decide)) (hfl hR (by omega) (by omega)) ?_
  rintro _ _ _ _ ⟨rfl, rfl, rfl, rfl⟩
  refine j_astore_n h d_Law_law_22 (Nat.lt_of_lt_of_eq (m := 7) (by decide) hN.symm) ?_
  refine z_new (ci := 6) (i := 0) (m := 36) h d_Law_law_23 rfl rfl wcl_Law_74 win_Mod wit_Mod h60 (kf_mod kf).1 (mod_df (fun col => rfl) (fun col => rfl) (fun col hc => lpP_hi K n hc)) (hfl hR (by omega) (by omega)) ?_
  refine j_dup h d_Law_law_26 rfl ?_
  refine j_aload_n h d_Law_law_27 rfl ?_
  refine j_iconst (v := nI 0) h d_Law_law_28 (by decide +kernel) ?_
  refine js_callS h hS hbl (c_Law_cell X.l K _ _ _ b L xs hL 0 (by decide)) d_Law_law_29 ml_Law_65 ms_Law_cell rfl rfl (Nat.le_of_ble_eq_true rfl) (hRl hR (by decide) (by decide)) (hfl hR (by omega) (by omega)) ?_
  rintro _ _ _ _ ⟨rfl, rfl, rfl, rfl⟩
  refine j_aload_n h d_Law_law_32 rfl ?_
  refine j_iconst (v := nI 1) h d_Law_law_33 (by decide +kernel) ?_
  refine js_callS h hS hbl (c_Law_cell X.l K _ _ _ b L xs hL 1 (by decide)) d_Law_law_34 ml_Law_65 ms_Law_cell rfl rfl (Nat.le_of_ble_eq_true rfl) (hRl hR (by decide) (by decide)) (hfl hR (by omega) (by omega)) ?_
  rintro _ _ _ _ ⟨rfl, rfl, rfl, rfl⟩
  refine j_aload_n h d_Law_law_37 rfl ?_
  refine j_iconst (v := nI 2) h d_Law_law_38 (by decide +kernel) ?_
  refine js_callS h hS hbl (c_Law_cell X.l K _ _ _ b L xs hL 2 (by decide)) d_Law_law_39 ml_Law_65 ms_Law_cell rfl rfl (Nat.le_of_ble_eq_true rfl) (hRl hR (by decide) (by decide)) (hfl hR (by omega) (by omega)) ?_
  rintro _ _ _ _ ⟨rfl, rfl, rfl, rfl⟩
  refine j_V (congrArg (Vz K) (show _ = K.base + 628 + 2 * n by omega)) ?_
  refine j_callI h (c_Mod_init X.l K n kf _ _ _ _ _ (scl xs L 0) (scl xs L 1) (scl xs L 2) hn (fun col i => rfl) (fun col i => rfl)) d_Law_law_42 ml_Law_76 mo_Mod_init rfl rfl rfl rfl (Nat.le_of_ble_eq_true rfl) (hRl hR (by decide) (by decide)) (hfl hR (by omega) (by omega)) ?_
  rintro _ _ _ _ ⟨rfl, rfl, rfl, rfl⟩
  refine j_astore_n h d_Law_law_45 (Nat.lt_of_lt_of_eq (m := 7) (by decide) hN.symm) ?_
  refine j_iconst (v := nI 1) h d_Law_law_46 (by decide +kernel) ?_
  refine z_newl (a := 40) (col := 99) (m := 1) h d_Law_law_47 rfl (by decide) (kf_out kf).2.2 (by decide) rfl h40 (kf_out kf).2.1 rfl (fun j => P11_99 K n j) (hfl hR (by omega) (by omega)) ?_
  refine j_astore_n h d_Law_law_49 (Nat.lt_of_lt_of_eq (m := 7) (by decide) hN.symm) ?_
  refine j_iconst (v := nI 3) h d_Law_law_50 (by decide +kernel) ?_
  refine j_istore h d_Law_law_51 (Nat.lt_of_lt_of_eq (m := 7) (by decide) hN.symm) ?_
  refine j_lv (lv' := [(0, .ref b), (1, .ref (K.ad 0 0)), (2, .ref (K.ad 6 0)), (3, .ref (K.aad 40)), (4, .int (nI 3))]) (lvs rfl (lvs rfl (lvs rfl (lvs rfl (lvs rfl lvs0))))) ?_
  refine j_widen (k := 1000) (n := 100000) (by omega) (by omega) ?_
  refine j_Vw (V' := K.full) (fun c i hv => vz_o hv (ad_hi kf hv)) (fun a ha => vz_a ha (aad_hi kf ha)) (fun z _ => trivial) ?_
  rw [lp_mod]
  exact law_loop E hend 513 3 1000 100000 _ _ _ _ _ (by omega) (by decide) (by decide) (by decide) (st_start kf (ls_ (gr (scl xs L 1) 1) 10000) (ls_ (gr (scl xs L 2) 0) 1000))
/-- YOUR PART: from the entry, for every script of at most 3075 ints, the law comes to its end with true -/
theorem whole_start {p : Program} {e : Env} {s : State} {m : MethodId} {below : List Frame} {meth : Method} {c : Code} (l : Launch) (hlt : l.stackTraces = false) {b L : Nat} {xs : Nat → Int32} (hL : L ≤ 3075) (C0 : lw_At p s m meth c b L xs) : W p l e room_1 s m #[Value.ref b] below meth c s.heap [] 0 0 (lw_Z below #[Value.ref b] s) (entryFrame m ([Value.ref b] : List Value).toArray 7) := by
  obtain ⟨hx, hb, hr, hml, hown, hts, hX, hbl, hlocks, hgv⟩ := C0
  obtain ⟨dC, dI, dA, hK⟩ := k_start hts
  obtain ⟨n, hn, en⟩ := clampN (scl xs L 0)
  have hap := mk_ap (dC := dC) (dI := dI) (dA := dA) (b := s.heap.size) hn
  have hok : OkX (p, l, e, room_1, s, m, #[Value.ref b], below, meth, c, lw_Z below #[Value.ref b] s, 7) b_Law_law R_Law (mkK dC dI dA s.heap.size n) := ⟨hx, hb, hml, hown, lw_wa hts, hK, bw_start rfl hts hgv, hap⟩
  have K1 := law_entry (X := (p, l, e, room_1, s, m, #[Value.ref b], below, meth, c, lw_Z below #[Value.ref b] s, 7)) (K := mkK dC dI dA s.heap.size n) ⟨hok, rfl, rfl, hlt, mk_kf hn, hX, hbl, hL⟩ en (fun kc ks V I P lv h1 h2 => by
    refine j_iconst (v := 1) hok d_Law_law_1253 (by decide) ?_
    exact jl_ret hx hb hr hlocks rfl d_Law_law_1254 h1 h2)
  have hl := lv_entry [Value.ref b] (n := 7) (Nat.le_of_ble_eq_true rfl)
  rw [lg_entry_eq]
  generalize (lg_sl [Value.ref b] ++ List.replicate (7 - (lg_sl [Value.ref b]).length) Slot.unset).toArray = ls at hl ⊢
  refine K1 s.heap [] ls ⟨fun c i hv => absurd hv.2 (Nat.not_lt.mpr (hap.2.2.2.1 c i hv.1)), fun a ha => absurd ha.2 (Nat.not_lt.mpr (hap.2.2.2.2.1 a ha.1)), rfl⟩ (Nat.le_refl _) (fun _ _ => rfl) (fun _ h => by cases h) ⟨⟨hl.1, hl.2.1, fun q hq => hl.2.2 q (clL_mem hq)⟩, lv_cat1 [Value.ref b] 0 (ca_r ca_n)⟩
