/-! what stands at the law's entry -/
theorem lw_wa {A : Array Value} {s : State} (hts : ∀ w ∈ lw_tbl, w.before A s = true) : ∀ w ∈ WA, w.before A s = true := fun w hw => hts w (List.mem_filter.mp hw).1
theorem arr_p {A : Array Value} {s : State} {ty : FieldType} (h : (Cond.arrayClass ty).before A s = true) (hty : ∀ C, ty ≠ .object C) : ∃ cA, ArrOfT s cA ty ∧ va_RA s cA ty := by
  obtain ⟨c, k, comp, h1, h2, h3⟩ := Cond.arrayClass_spec h
  refine ⟨c, fun n z => ⟨fun k h => (by cases h), k, h2, comp, h3⟩, ?_⟩
  cases ty with
  | object C => exact absurd rfl (hty C)
  | _ => exact h1
theorem arr_o {A : Array Value} {s : State} {C : String} (h : (Cond.arrayOver (.object C)).before A s = true) : ∃ cA, ArrOfT s cA (.object C) ∧ va_RA s cA (.object C) := by
  obtain ⟨comp, c, k, h1, h2, h3, h4, h5⟩ := Cond.arrayOver_spec h
  exact ⟨c, fun n z => ⟨fun k h => (by cases h), k, h3, comp, h4⟩, k, comp, h3, h4, h1, h5⟩
theorem nwn_in : ∀ w ∈ NWN, w ∈ lw_tbl := by
  intro w hw
  have h : (NWN.all fun w => decide (w ∈ lw_tbl)) = true := by decide +kernel
  exact of_decide_eq_true (List.all_eq_true.mp h w hw)
theorem k_start {A : Array Value} {s : State} (hts : ∀ w ∈ lw_tbl, w.before A s = true) : ∃ (dC : Nat → ClassId) (dI : Nat → Nat → Nat) (dA : Nat → ClassId), va_K (dC, dI) classes ((List.range 7).map (fun t => (dA t, atyT t))) s := by
  have hw := lw_wa hts
  obtain ⟨c0, iS0, hKn0⟩ := u_known (C := R_LP) (T := F_LP) (N := 8) (n := 8) hw wi_LP (hw _ win_LP)
  obtain ⟨c1, iS1, hKn1⟩ := u_known (C := R_Srv) (T := F_Srv) (N := 13) (n := 13) hw wi_Srv (hw _ win_Srv)
  obtain ⟨c2, iS2, hKn2⟩ := u_known (C := R_Rec) (T := F_Rec) (N := 13) (n := 13) hw wi_Rec (hw _ win_Rec)
  obtain ⟨c3, iS3, hKn3⟩ := u_known (C := R_Cli) (T := F_Cli) (N := 4) (n := 4) hw wi_Cli (hw _ win_Cli)
  obtain ⟨c4, iS4, hKn4⟩ := u_known (C := R_Net) (T := F_Net) (N := 5) (n := 5) hw wi_Net (hw _ win_Net)
  obtain ⟨c5, iS5, hKn5⟩ := u_known (C := R_Msg) (T := F_Msg) (N := 15) (n := 15) hw wi_Msg (hw _ win_Msg)
  obtain ⟨c6, iS6, hKn6⟩ := u_known (C := R_Mod) (T := F_Mod) (N := 36) (n := 36) hw wi_Mod (hw _ win_Mod)
  obtain ⟨a0, hA0⟩ := arr_p (hw _ wac_int) (fun C h => by cases h)
  obtain ⟨a1, hA1⟩ := arr_p (hw _ wac_boolean) (fun C h => by cases h)
  obtain ⟨a2, hA2⟩ := arr_p (hw _ wac_long) (fun C h => by cases h)
  obtain ⟨a3, hA3⟩ := arr_o (hts _ (nwn_in _ wao_Srv))
  obtain ⟨a4, hA4⟩ := arr_o (hts _ (nwn_in _ wao_Cli))
  obtain ⟨a5, hA5⟩ := arr_o (hts _ (nwn_in _ wao_Rec))
  obtain ⟨a6, hA6⟩ := arr_o (hts _ (nwn_in _ wao_Msg))
  refine ⟨fun k => nth 0 [c0, c1, c2, c3, c4, c5, c6] k, fun k => nth (fun _ => 0) [iS0, iS1, iS2, iS3, iS4, iS5, iS6] k, fun k => nth 0 [a0, a1, a2, a3, a4, a5, a6] k, ?_, ?_⟩
  · intro k q hq
    match k, hq with
    | 0, hq => cases hq; exact hKn0
    | 1, hq => cases hq; exact hKn1
    | 2, hq => cases hq; exact hKn2
    | 3, hq => cases hq; exact hKn3
    | 4, hq => cases hq; exact hKn4
    | 5, hq => cases hq; exact hKn5
    | 6, hq => cases hq; exact hKn6
    | k + 7, hq => simp [classes] at hq
  · intro k q hq
    match k, hq with
    | 0, hq => cases hq; exact hA0
    | 1, hq => cases hq; exact hA1
    | 2, hq => cases hq; exact hA2
    | 3, hq => cases hq; exact hA3
    | 4, hq => cases hq; exact hA4
    | 5, hq => cases hq; exact hA5
    | 6, hq => cases hq; exact hA6
    | k + 7, hq => simp at hq
theorem stf_start {A : Array Value} {s : State} {C n d : String} (h1 : (Cond.laysStatic C n d).before A s = true) (h2 : (Cond.isRef (.static C n d)).before A s = true) : STf s.heap.size C n d s s.heap := by
  obtain ⟨c, k, i, f, a, cell, g1, g2, g3, g4, g5, g6, g7, g8, g9⟩ := Cond.laysStatic_spec h1
  have ha : a < s.heap.size := (Array.getElem?_eq_some_iff.mp g5).1
  refine ⟨c, k, i, f, a, cell, g1, g2, g3, g4, g5, g6, g7, g8, g9, ha, ?_⟩
  have he : (Term.static C n d).eval A s none [] s = cell.slots[f.slot]? := by
    simp [Term.eval, State.fieldNamed?, g2, g3, g4, g5, g6]
  simp only [Cond.before, Cond.holds, Cond.value, he] at h2
  rcases hv : cell.slots[f.slot]? with _ | v
  · rw [hv] at h2; simp at h2
  · rw [hv] at h2
    cases v with
    | null => exact Or.inl rfl
    | ref t => exact Or.inr ⟨t, rfl⟩
    | _ => simp at h2
theorem nw_start {A : Array Value} {s : State} (hts : ∀ w ∈ lw_tbl, w.before A s = true) : NWk s := by
  refine ⟨fun w hw => ?_, fun w hw => ?_⟩
  · have hg := (List.mem_filter.mp hw).2
    simp only [Bool.and_eq_true] at hg
    exact va_tabs hg.1 rfl (hts w (List.mem_filter.mp hw).1)
  · have h1 := hts w (nwn_in w hw)
    simp only [NWN, List.mem_cons, List.not_mem_nil, or_false] at hw
    rcases hw with rfl | rfl | rfl | rfl | rfl | rfl | rfl
    · exact va_tabs rfl rfl h1
    · exact va_tabs rfl rfl h1
    · exact va_tabs rfl rfl h1
    · exact va_AO.of h1
    · exact va_AO.of h1
    · exact va_AO.of h1
    · exact va_AO.of h1
theorem bw_start {K : Kx} {A : Array Value} {s : State} (hb : K.base = s.heap.size) (hts : ∀ w ∈ lw_tbl, w.before A s = true) (hgv : (Jvm.Cond.and given_1 narrow_1).before A s = true) : BW K s := by
  have hs := flat_of_before _ hgv
  refine ⟨Nat.le_of_eq hb, nw_start hts, ?_, ?_⟩
  · rw [hb]
    exact stf_start (hts _ (List.mem_append_right _ (List.mem_append_right _ (List.mem_append_right _ (List.mem_append_left _ (List.mem_of_getElem? (i := 55) (by decide +kernel))))))) (hs _ (by decide +kernel))
  · rw [hb]
    exact stf_start (hts _ (List.mem_append_right _ (List.mem_append_right _ (List.mem_append_right _ (List.mem_append_left _ (List.mem_of_getElem? (i := 57) (by decide +kernel))))))) (hs _ (by decide +kernel))
def mkK (dC : Nat → ClassId) (dI : Nat → Nat → Nat) (dA : Nat → ClassId) (b n : Nat) : Kx := (dC, dI, dA, b, kad b n, kaad b n, klen n, kpv n, kpa)
theorem mk_kf {dC : Nat → ClassId} {dI : Nat → Nat → Nat} {dA : Nat → ClassId} {b n : Nat} (h : 2 ≤ n ∧ n ≤ 32) : KF (mkK dC dI dA b n) n := ⟨h, rfl, rfl, rfl, rfl, rfl⟩
theorem mk_ap {dC : Nat → ClassId} {dI : Nat → Nat → Nat} {dA : Nat → ClassId} {b n : Nat} (h : 2 ≤ n ∧ n ≤ 32) : (mkK dC dI dA b n).apart :=
  ⟨kad_inj h.2, kaad_inj h.2, kk_ne h.2, fun c i hv => kad_lo hv, fun a _ => kaad_lo, fun a ha => by
    rcases (show a < 6 ∨ (10 ≤ a ∧ a < 39) ∨ a = 40 from ha) with q | q | q <;> omega⟩
