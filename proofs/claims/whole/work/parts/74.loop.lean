/-! the other three turns; the loop -/
set_option maxRecDepth 100000 in
set_option maxHeartbeats 4000000 in
theorem t_carryAll {X : Jx} {K : Kx} {n b L i kc ks : Nat} {ld sk : Int32} {xs : Nat → Int32} {A B D : MI} {P : MP} {N : List Msg} (E : LawE X K n b L xs) (hi : i + 5 < L) (st : ST K n ld sk A B D P N) (hkc : kc + 5 ≤ 601024) (hks : ks + 30 ≤ 7293000) (kt : KT X K n ld sk b i (kc + 5) (ks + 30)) : J X K K.full (bk4 A B A D) P kc ks 868 [(0, .ref b), (1, .ref (K.ad 0 0)), (2, .ref (K.ad 6 0)), (3, .ref (K.aad 40)), (4, .int (nI i))] [] := by
  obtain ⟨h, hN, hR, hlt, kf, hS, hbl, hL⟩ := E
  obtain ⟨cs, ⟨T, U, hnc⟩, ms, hm, inv⟩ := st
  have hv6 : K.full.1 6 0 := (kf_mod kf).1
  have hv0 : K.full.1 0 0 := (kf_lp kf).1.1
  have ha40 : K.full.2.1 40 := (kf_out kf).2.1
  have hl40 : K.alen 40 = 1 := (kf_out kf).2.2
  refine j_aload_n h d_Law_law_868 rfl ?_
  refine j_callV h (c_LP_carryAll X.l K K.full A B A D P n cs ld sk N T U hnc (fun q q' h1 h2 e => by have e1 := (kf_msg kf h1).1; have e2 := (kf_msg kf h2).1; omega) (by have e1 := (kf_net kf).2.1.1; have e2 := (kf_net kf).2.2.1; omega) inv.2.1.1 inv.2.2.1.1) d_Law_law_869 ml_Law_118 mv_LP_carryAll hv0 ⟨rfl, rfl⟩ rfl rfl (Nat.le_of_ble_eq_true rfl) (hRl hR (by decide) (by decide)) (hfl hR (by omega) (by omega)) ?_
  rintro _ _ _ P1 ⟨rfl, rfl, pe, B1, rfl, hnc1⟩
  refine j_aload_n h d_Law_law_872 rfl ?_
  refine j_callV h (c_Mod_carryAll X.l K K.full _ _ A D _ (MSt_pe ms (fun col h1 h2 => pe col 0 (by omega) (by omega) (by omega) (by omega))) N hm n ld sk inv.1 inv.2.2.1.1 inv.2.2.1.2 inv.2.1.1 inv.2.1.2.2) d_Law_law_873 ml_Law_121 mv_Mod_carryAll hv6 ⟨rfl, rfl⟩ rfl rfl (Nat.le_of_ble_eq_true rfl) (hRl hR (by decide) (by decide)) (hfl hR (by omega) (by omega)) ?_
  rintro _ _ _ _ ⟨rfl, rfl, rfl, D1, rfl, e70, hm1⟩
  refine j_ic_eq (tgt := 1247) h d_Law_law_876 (by decide) (fun _ => ?_) (fun c => absurd rfl c)
  refine j_lv (lv' := [(0, .ref b), (1, .ref (K.ad 0 0)), (2, .ref (K.ad 6 0)), (3, .ref (K.aad 40)), (4, .int (nI i))]) (lvs rfl (lvs rfl (lvs rfl (lvs rfl (lvs rfl lvs0))))) ?_
  refine j_widen (k := kc + 5) (n := ks + 30) (by omega) (by omega) ?_
  exact kt _ _ _ _ _ ⟨CS_pe pe cs, ⟨_, _, hnc1⟩, (MSt_pe ms (fun col h1 h2 => pe col 0 (by omega) (by omega) (by omega) (by omega))), hm1, Inv_carryAll inv⟩
set_option maxRecDepth 100000 in
set_option maxHeartbeats 4000000 in
theorem t_messages {X : Jx} {K : Kx} {n b L i kc ks : Nat} {ld sk : Int32} {xs : Nat → Int32} {A B D : MI} {P : MP} {N : List Msg} (E : LawE X K n b L xs) (hi : i + 5 < L) (st : ST K n ld sk A B D P N) (hkc : kc + 5 ≤ 601024) (hks : ks + 30 ≤ 7293000) (kt : KT X K n ld sk b i (kc + 5) (ks + 30)) : J X K K.full (bk4 A B A D) P kc ks 937 [(0, .ref b), (1, .ref (K.ad 0 0)), (2, .ref (K.ad 6 0)), (3, .ref (K.aad 40)), (4, .int (nI i))] [] := by
  obtain ⟨h, hN, hR, hlt, kf, hS, hbl, hL⟩ := E
  obtain ⟨cs, ⟨T, U, hnc⟩, ms, hm, inv⟩ := st
  have hv6 : K.full.1 6 0 := (kf_mod kf).1
  have hv0 : K.full.1 0 0 := (kf_lp kf).1.1
  have ha40 : K.full.2.1 40 := (kf_out kf).2.1
  have hl40 : K.alen 40 = 1 := (kf_out kf).2.2
  refine j_aload_n h d_Law_law_937 rfl ?_
  refine j_callV h (c_LP_messages X.l K K.full A B A D P n cs ld sk N T U hnc) d_Law_law_938 ml_Law_125 mv_LP_messages hv0 ⟨rfl, rfl⟩ rfl rfl (Nat.le_of_ble_eq_true rfl) (hRl hR (by decide) (by decide)) (hfl hR (by omega) (by omega)) ?_
  rintro _ _ _ _ ⟨rfl, rfl, rfl, rfl⟩
  refine j_aload_n h d_Law_law_941 rfl ?_
  refine j_callV h (c_Mod_messages X.l K K.full _ _ A D _ ms N hm) d_Law_law_942 ml_Law_128 mv_Mod_messages hv6 ⟨rfl, rfl⟩ rfl rfl (Nat.le_of_ble_eq_true rfl) (hRl hR (by decide) (by decide)) (hfl hR (by omega) (by omega)) ?_
  rintro _ _ _ _ ⟨rfl, rfl, rfl, D1, rfl, e70, hm1⟩
  refine j_ic_eq (tgt := 1247) h d_Law_law_945 (by decide) (fun _ => ?_) (fun c => absurd rfl c)
  refine j_lv (lv' := [(0, .ref b), (1, .ref (K.ad 0 0)), (2, .ref (K.ad 6 0)), (3, .ref (K.aad 40)), (4, .int (nI i))]) (lvs rfl (lvs rfl (lvs rfl (lvs rfl (lvs rfl lvs0))))) ?_
  refine j_widen (k := kc + 5) (n := ks + 30) (by omega) (by omega) ?_
  exact kt _ _ _ _ _ ⟨cs, ⟨_, _, hnc⟩, ms, hm1, inv⟩
set_option maxRecDepth 100000 in
set_option maxHeartbeats 4000000 in
theorem t_most {X : Jx} {K : Kx} {n b L i kc ks : Nat} {ld sk : Int32} {xs : Nat → Int32} {A B D : MI} {P : MP} {N : List Msg} (E : LawE X K n b L xs) (hi : i + 5 < L) (st : ST K n ld sk A B D P N) (hkc : kc + 5 ≤ 601024) (hks : ks + 30 ≤ 7293000) (kt : KT X K n ld sk b i (kc + 5) (ks + 30)) : J X K K.full (bk4 A B A D) P kc ks 1234 [(0, .ref b), (1, .ref (K.ad 0 0)), (2, .ref (K.ad 6 0)), (3, .ref (K.aad 40)), (4, .int (nI i))] [] := by
  obtain ⟨h, hN, hR, hlt, kf, hS, hbl, hL⟩ := E
  obtain ⟨cs, ⟨T, U, hnc⟩, ms, hm, inv⟩ := st
  have hv6 : K.full.1 6 0 := (kf_mod kf).1
  have hv0 : K.full.1 0 0 := (kf_lp kf).1.1
  have ha40 : K.full.2.1 40 := (kf_out kf).2.1
  have hl40 : K.alen 40 = 1 := (kf_out kf).2.2
  refine j_aload_n h d_Law_law_1234 rfl ?_
  refine j_callV h (c_LP_most X.l K K.full A B A D P n cs) d_Law_law_1235 ml_Law_142 mv_LP_most hv0 ⟨rfl, rfl⟩ rfl rfl (Nat.le_of_ble_eq_true rfl) (hRl hR (by decide) (by decide)) (hfl hR (by omega) (by omega)) ?_
  rintro _ _ _ _ ⟨rfl, rfl, rfl, rfl⟩
  refine j_aload_n h d_Law_law_1238 rfl ?_
  refine j_callV h (c_Mod_most X.l K K.full _ _ A D _ ms N hm) d_Law_law_1239 ml_Law_145 mv_Mod_most hv6 ⟨rfl, rfl⟩ rfl rfl (Nat.le_of_ble_eq_true rfl) (hRl hR (by decide) (by decide)) (hfl hR (by omega) (by omega)) ?_
  rintro _ _ _ _ ⟨rfl, rfl, rfl, D1, rfl, e70, hm1⟩
  refine j_ic_eq (tgt := 1247) h d_Law_law_1242 (by decide) (fun _ => ?_) (fun c => absurd rfl c)
  refine j_lv (lv' := [(0, .ref b), (1, .ref (K.ad 0 0)), (2, .ref (K.ad 6 0)), (3, .ref (K.aad 40)), (4, .int (nI i))]) (lvs rfl (lvs rfl (lvs rfl (lvs rfl (lvs rfl lvs0))))) ?_
  refine j_widen (k := kc + 5) (n := ks + 30) (by omega) (by omega) ?_
  exact kt _ _ _ _ _ ⟨cs, ⟨_, _, hnc⟩, ms, hm1, inv⟩
theorem gt6 {i L : Nat} (hi : i < 100000) (hL : L ≤ 3075) : nI L - 6 < nI i ↔ L < i + 6 := by
  rw [Int32.lt_iff_toInt_lt, i_sub (by rw [nI_toInt (by omega)]; show _ ≤ (L : Int) - 6; omega) (by rw [nI_toInt (by omega)]; show (L : Int) - 6 < _; omega), nI_toInt (by omega), nI_toInt (by omega)]
  show (L : Int) - 6 < (i : Int) ↔ _
  omega
set_option maxRecDepth 100000 in
set_option maxHeartbeats 4000000 in
theorem law_loop {X : Jx} {K : Kx} {n b L : Nat} {ld sk : Int32} {xs : Nat → Int32} (E : LawE X K n b L xs) (hend : ∀ (kc ks : Nat) (V : Vx) (I : MI3) (P : MP) (lv : List (Nat × Value)), kc ≤ 601024 → ks ≤ 7293000 → J X K V I P kc ks 1253 lv []) :
    ∀ (k i kc ks : Nat) (A B D : MI) (P : MP) (N : List Msg), L < i + 6 * k + 6 → i + 6 * k < 100000 → kc + 5 * k ≤ 601024 → ks + 30 * k ≤ 7293000 → ST K n ld sk A B D P N → J X K K.full (bk4 A B A D) P kc ks 53 [(0, .ref b), (1, .ref (K.ad 0 0)), (2, .ref (K.ad 6 0)), (3, .ref (K.aad 40)), (4, .int (nI i))] [] := by
  intro k
  have E0 := E
  obtain ⟨h, hN, hR, hlt, kf, hS, hbl, hL⟩ := E0
  induction k with
  | zero =>
    intro i kc ks A B D P N h1 h2 h3 h4 st
    refine j_iload h d_Law_law_53 rfl ?_
    refine j_aload_n h d_Law_law_55 rfl ?_
    refine j_slen h hS hbl d_Law_law_56 ?_
    refine j_bipush (v := 6) h d_Law_law_57 (by decide) ?_
    refine j_isub h d_Law_law_59 ?_
    refine j_ic_gt (tgt := 1253) h d_Law_law_60 (by decide) (fun _ => hend _ _ _ _ _ _ (by omega) (by omega)) (fun c => absurd ((gt6 (by omega) hL).mpr (by omega)) c)
  | succ k ih =>
    intro i kc ks A B D P N h1 h2 h3 h4 st
    refine j_iload h d_Law_law_53 rfl ?_
    refine j_aload_n h d_Law_law_55 rfl ?_
    refine j_slen h hS hbl d_Law_law_56 ?_
    refine j_bipush (v := 6) h d_Law_law_57 (by decide) ?_
    refine j_isub h d_Law_law_59 ?_
    refine j_ic_gt (tgt := 1253) h d_Law_law_60 (by decide) (fun _ => hend _ _ _ _ _ _ (by omega) (by omega)) (fun c => ?_)
    have hi : i + 5 < L := by
      have := mt (gt6 (by omega) hL).mpr c
      omega
    have kt : KT X K n ld sk b i (kc + 5) (ks + 30) := by
      intro A B D P N st
      refine j_iinc (v := nI (i + 6)) h d_Law_law_1247 rfl (show nI i + Int32.ofInt 6 = nI (i + 6) from nI_add i 6) (Nat.lt_of_lt_of_eq (m := 7) (by decide) hN.symm) ?_
      refine j_goto (tgt := 53) h d_Law_law_1250 (by decide) ?_
      refine j_lv (lv' := [(0, .ref b), (1, .ref (K.ad 0 0)), (2, .ref (K.ad 6 0)), (3, .ref (K.aad 40)), (4, .int (nI (i + 6)))]) (lvs rfl (lvs rfl (lvs rfl (lvs rfl (lvs rfl lvs0))))) ?_
      exact ih (i + 6) (kc + 5) (ks + 30) A B D P N (by omega) (by omega) (by omega) (by omega) st
    refine j_aload_n h d_Law_law_63 rfl ?_
    refine j_iload h d_Law_law_64 rfl ?_
    refine j_sld (j := i) h hS hbl d_Law_law_66 rfl (by omega) (by omega) ?_
    refine j_bipush (v := 31) h d_Law_law_67 (by decide) ?_
    refine j_iand h d_Law_law_69 ?_
    obtain ⟨j, hj, e⟩ := pk_andE (xs i) (m := 31) 5 (by decide)
    refine j_int (v' := nI j) e ?_
    clear e
    match j, hj with
    | 0, _ =>
      refine j_tabIn (off := 90) (tgt := 160) h d_Law_law_70 (by decide +kernel) (by decide +kernel) (by decide +kernel) (by decide) ?_
      exact t_seconds E hi st (by omega) (by omega) kt
    | 1, _ =>
      refine j_tabIn (off := 146) (tgt := 216) h d_Law_law_70 (by decide +kernel) (by decide +kernel) (by decide +kernel) (by decide) ?_
      exact t_skew E hi st (by omega) (by omega) kt
    | 2, _ =>
      refine j_tabIn (off := 214) (tgt := 284) h d_Law_law_70 (by decide +kernel) (by decide +kernel) (by decide +kernel) (by decide) ?_
      exact t_kill E hi st (by omega) (by omega) kt
    | 3, _ =>
      refine j_tabIn (off := 277) (tgt := 347) h d_Law_law_70 (by decide +kernel) (by decide +kernel) (by decide +kernel) (by decide) ?_
      exact t_fuse E hi st (by omega) (by omega) kt
    | 4, _ =>
      refine j_tabIn (off := 325) (tgt := 395) h d_Law_law_70 (by decide +kernel) (by decide +kernel) (by decide +kernel) (by decide) ?_
      exact t_start E hi st (by omega) (by omega) kt
    | 5, _ =>
      refine j_tabIn (off := 388) (tgt := 458) h d_Law_law_70 (by decide +kernel) (by decide +kernel) (by decide +kernel) (by decide) ?_
      exact t_partnerDown E hi st (by omega) (by omega) kt
    | 6, _ =>
      refine j_tabIn (off := 451) (tgt := 521) h d_Law_law_70 (by decide +kernel) (by decide +kernel) (by decide +kernel) (by decide) ?_
      exact t_ask E hi st (by omega) (by omega) kt
    | 7, _ =>
      refine j_tabIn (off := 555) (tgt := 625) h d_Law_law_70 (by decide +kernel) (by decide +kernel) (by decide +kernel) (by decide) ?_
      exact t_send E hi st (by omega) (by omega) kt
    | 8, _ =>
      refine j_tabIn (off := 611) (tgt := 681) h d_Law_law_70 (by decide +kernel) (by decide +kernel) (by decide +kernel) (by decide) ?_
      exact t_tidy E hi st (by omega) (by omega) kt
    | 9, _ =>
      refine j_tabIn (off := 667) (tgt := 737) h d_Law_law_70 (by decide +kernel) (by decide +kernel) (by decide +kernel) (by decide) ?_
      exact t_give E hi st (by omega) (by omega) kt
    | 10, _ =>
      refine j_tabIn (off := 735) (tgt := 805) h d_Law_law_70 (by decide +kernel) (by decide +kernel) (by decide +kernel) (by decide) ?_
      exact t_carry E hi st (by omega) (by omega) kt
    | 11, _ =>
      refine j_tabIn (off := 798) (tgt := 868) h d_Law_law_70 (by decide +kernel) (by decide +kernel) (by decide +kernel) (by decide) ?_
      exact t_carryAll E hi st (by omega) (by omega) kt
    | 12, _ =>
      refine j_tabIn (off := 811) (tgt := 881) h d_Law_law_70 (by decide +kernel) (by decide +kernel) (by decide +kernel) (by decide) ?_
      exact t_drop E hi st (by omega) (by omega) kt
    | 13, _ =>
      refine j_tabIn (off := 867) (tgt := 937) h d_Law_law_70 (by decide +kernel) (by decide +kernel) (by decide +kernel) (by decide) ?_
      exact t_messages E hi st (by omega) (by omega) kt
    | 14, _ =>
      refine j_tabIn (off := 880) (tgt := 950) h d_Law_law_70 (by decide +kernel) (by decide +kernel) (by decide +kernel) (by decide) ?_
      exact t_message E hi st (by omega) (by omega) kt
    | 15, _ =>
      refine j_tabIn (off := 948) (tgt := 1018) h d_Law_law_70 (by decide +kernel) (by decide +kernel) (by decide +kernel) (by decide) ?_
      exact t_client E hi st (by omega) (by omega) kt
    | 16, _ =>
      refine j_tabIn (off := 1016) (tgt := 1086) h d_Law_law_70 (by decide +kernel) (by decide +kernel) (by decide +kernel) (by decide) ?_
      exact t_record E hi st (by omega) (by omega) kt
    | 17, _ =>
      refine j_tabIn (off := 1096) (tgt := 1166) h d_Law_law_70 (by decide +kernel) (by decide +kernel) (by decide +kernel) (by decide) ?_
      exact t_server E hi st (by omega) (by omega) kt
    | 18, _ =>
      refine j_tabIn (off := 1164) (tgt := 1234) h d_Law_law_70 (by decide +kernel) (by decide +kernel) (by decide +kernel) (by decide) ?_
      exact t_most E hi st (by omega) (by omega) kt
    | 19, _ =>
      refine j_tabOut (tgt := 1247) h d_Law_law_70 (by decide +kernel) (by decide) ?_
      refine j_widen (k := kc + 5) (n := ks + 30) (by omega) (by omega) ?_
      exact kt _ _ _ _ _ st
    | 20, _ =>
      refine j_tabOut (tgt := 1247) h d_Law_law_70 (by decide +kernel) (by decide) ?_
      refine j_widen (k := kc + 5) (n := ks + 30) (by omega) (by omega) ?_
      exact kt _ _ _ _ _ st
    | 21, _ =>
      refine j_tabOut (tgt := 1247) h d_Law_law_70 (by decide +kernel) (by decide) ?_
      refine j_widen (k := kc + 5) (n := ks + 30) (by omega) (by omega) ?_
      exact kt _ _ _ _ _ st
    | 22, _ =>
      refine j_tabOut (tgt := 1247) h d_Law_law_70 (by decide +kernel) (by decide) ?_
      refine j_widen (k := kc + 5) (n := ks + 30) (by omega) (by omega) ?_
      exact kt _ _ _ _ _ st
    | 23, _ =>
      refine j_tabOut (tgt := 1247) h d_Law_law_70 (by decide +kernel) (by decide) ?_
      refine j_widen (k := kc + 5) (n := ks + 30) (by omega) (by omega) ?_
      exact kt _ _ _ _ _ st
    | 24, _ =>
      refine j_tabOut (tgt := 1247) h d_Law_law_70 (by decide +kernel) (by decide) ?_
      refine j_widen (k := kc + 5) (n := ks + 30) (by omega) (by omega) ?_
      exact kt _ _ _ _ _ st
    | 25, _ =>
      refine j_tabOut (tgt := 1247) h d_Law_law_70 (by decide +kernel) (by decide) ?_
      refine j_widen (k := kc + 5) (n := ks + 30) (by omega) (by omega) ?_
      exact kt _ _ _ _ _ st
    | 26, _ =>
      refine j_tabOut (tgt := 1247) h d_Law_law_70 (by decide +kernel) (by decide) ?_
      refine j_widen (k := kc + 5) (n := ks + 30) (by omega) (by omega) ?_
      exact kt _ _ _ _ _ st
    | 27, _ =>
      refine j_tabOut (tgt := 1247) h d_Law_law_70 (by decide +kernel) (by decide) ?_
      refine j_widen (k := kc + 5) (n := ks + 30) (by omega) (by omega) ?_
      exact kt _ _ _ _ _ st
    | 28, _ =>
      refine j_tabOut (tgt := 1247) h d_Law_law_70 (by decide +kernel) (by decide) ?_
      refine j_widen (k := kc + 5) (n := ks + 30) (by omega) (by omega) ?_
      exact kt _ _ _ _ _ st
    | 29, _ =>
      refine j_tabOut (tgt := 1247) h d_Law_law_70 (by decide +kernel) (by decide) ?_
      refine j_widen (k := kc + 5) (n := ks + 30) (by omega) (by omega) ?_
      exact kt _ _ _ _ _ st
    | 30, _ =>
      refine j_tabOut (tgt := 1247) h d_Law_law_70 (by decide +kernel) (by decide) ?_
      refine j_widen (k := kc + 5) (n := ks + 30) (by omega) (by omega) ?_
      exact kt _ _ _ _ _ st
    | 31, _ =>
      refine j_tabOut (tgt := 1247) h d_Law_law_70 (by decide +kernel) (by decide) ?_
      refine j_widen (k := kc + 5) (n := ks + 30) (by omega) (by omega) ?_
      exact kt _ _ _ _ _ st
    | j + 32, hj => exact absurd hj (by omega)
