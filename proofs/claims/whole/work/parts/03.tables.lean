/-! the tables: where each field lies, the words -/
def nth {α : Type} (d : α) : List α → Nat → α
  | [], _ => d
  | a :: _, 0 => a
  | _ :: t, n + 1 => nth d t n
def ctab : List (List (Bool × Nat × Nat)) := [[(false, 0, 42), (false, 0, 44), (true, 9, 0), (true, 9, 1), (true, 9, 2), (true, 9, 3), (false, 0, 40), (false, 0, 41)],
  [(false, 1, 60), (false, 1, 61), (false, 1, 62), (false, 1, 63), (true, 9, 4), (false, 0, 1), (false, 0, 0), (false, 0, 2), (false, 0, 3), (false, 0, 4), (false, 0, 5), (false, 0, 7), (false, 0, 6)],
  [(false, 0, 10), (false, 0, 11), (false, 0, 12), (false, 0, 13), (false, 0, 14), (false, 0, 15), (false, 0, 16), (false, 0, 17), (false, 0, 18), (false, 0, 19), (false, 0, 20), (false, 0, 21), (false, 0, 22)],
  [(false, 0, 32), (false, 0, 33), (false, 0, 30), (false, 0, 31)],
  [(true, 9, 5), (true, 9, 6), (false, 1, 70), (false, 1, 71), (false, 1, 72)],
  [(false, 1, 80), (false, 1, 82), (false, 1, 81), (false, 1, 83), (false, 1, 84), (false, 1, 85), (false, 1, 86), (false, 1, 87), (false, 1, 88), (false, 1, 89), (false, 1, 90), (false, 1, 91), (false, 1, 92), (false, 1, 93), (false, 1, 94)],
  [(false, 3, 70), (false, 2, 42), (false, 2, 43), (false, 2, 44), (false, 2, 40), (true, 9, 20), (true, 9, 21), (true, 9, 22), (true, 9, 23), (true, 9, 24), (true, 9, 25), (true, 9, 26), (true, 9, 27), (true, 9, 28), (true, 9, 29), (true, 9, 30), (true, 9, 31), (true, 9, 32), (true, 9, 33), (true, 9, 34), (true, 9, 35), (true, 9, 36), (true, 9, 37), (true, 9, 38), (true, 9, 39), (true, 9, 40), (true, 9, 41), (true, 9, 42), (true, 9, 43), (true, 9, 44), (false, 2, 41), (false, 3, 71), (true, 9, 45), (true, 9, 46), (true, 9, 47), (true, 9, 48)]]
def cinf (ci k : Nat) : Bool × Nat × Nat := nth (true, 9, 999) (nth [] ctab ci) k
def nf (ci : Nat) : Nat := nth 0 [8, 13, 13, 4, 5, 15, 36] ci
def ftyp (ci : Nat) : Nat → FieldType := nth (fun _ => .int) [t_LP, t_Srv, t_Rec, t_Cli, t_Net, t_Msg, t_Mod] ci
def atab : List (Nat × Nat × Nat) := [(2, 9, 10), (2, 9, 11), (2, 9, 12), (2, 9, 13), (2, 9, 14), (2, 9, 15), (2, 9, 1006), (2, 9, 1007), (2, 9, 1008), (2, 9, 1009), (0, 2, 0), (0, 2, 1), (0, 2, 2), (0, 2, 3), (0, 2, 4), (0, 2, 5), (0, 2, 6), (0, 2, 7), (0, 2, 10), (0, 2, 11), (0, 2, 12), (0, 2, 13), (0, 2, 14), (0, 2, 15), (0, 2, 16), (0, 2, 17), (0, 2, 18), (0, 2, 19), (0, 2, 20), (0, 2, 21), (0, 2, 22), (0, 2, 30), (0, 2, 31), (0, 2, 32), (0, 2, 33), (0, 3, 72), (0, 3, 73), (0, 3, 74), (0, 3, 75), (2, 9, 1039), (1, 9, 99), (2, 9, 1041), (2, 9, 1042), (2, 9, 1043), (2, 9, 1044), (2, 9, 1045), (2, 9, 1046), (2, 9, 1047), (2, 9, 1048), (2, 9, 1049), (2, 9, 1050), (2, 9, 1051), (2, 9, 1052), (2, 9, 1053), (2, 9, 1054), (2, 9, 1055), (2, 9, 1056), (2, 9, 1057), (2, 9, 1058), (2, 9, 1059)]
def ainf (a : Nat) : Nat × Nat × Nat := nth (2, 9, 2000) atab a
def aty (a : Nat) : Nat := nth 0 [3, 4, 5, 5, 6, 6, 0, 0, 0, 0, 0, 0, 0, 0, 0, 0, 0, 0, 0, 0, 0, 0, 1, 0, 0, 1, 0, 0, 0, 1, 1, 0, 0, 0, 0, 0, 0, 0, 0, 0, 2, 0, 0, 0, 0, 0, 0, 0, 0, 0, 0, 0, 0, 0, 0, 0, 0, 0, 0, 0] a
def atyT (t : Nat) : FieldType := nth .int [.int, .boolean, .long, .object "LeasePair$Server", .object "LeasePair$Client", .object "LeasePair$LeaseRecord", .object "LeasePair$Message"] t
def WA : List Cond := lw_tbl.filter goodWord
theorem WA_good (w : Cond) (h : w ∈ WA) : (w.onTables && w.keeps) = true ∨ ∃ ty, w = .arrayClass ty := good_of_word (List.mem_filter.mp h).2
theorem wa_0 {w : Cond} (h : w ∈ k2_sels lw_privs) (g : goodWord w = true) : w ∈ WA := List.mem_filter.mpr ⟨List.mem_append_left _ h, g⟩
theorem wa_1 {w : Cond} (h : w ∈ tables_1_1) (g : goodWord w = true) : w ∈ WA := List.mem_filter.mpr ⟨List.mem_append_right _ (List.mem_append_left _ h), g⟩
theorem wa_2 {w : Cond} (h : w ∈ tables_1_2) (g : goodWord w = true) : w ∈ WA := List.mem_filter.mpr ⟨List.mem_append_right _ (List.mem_append_right _ (List.mem_append_left _ h)), g⟩
theorem wa_3 {w : Cond} (h : w ∈ tables_1_3) (g : goodWord w = true) : w ∈ WA := List.mem_filter.mpr ⟨List.mem_append_right _ (List.mem_append_right _ (List.mem_append_right _ (List.mem_append_left _ h))), g⟩
theorem wa_4 {w : Cond} (h : w ∈ tables_1_4) (g : goodWord w = true) : w ∈ WA := List.mem_filter.mpr ⟨List.mem_append_right _ (List.mem_append_right _ (List.mem_append_right _ (List.mem_append_right _ (List.mem_append_left _ h)))), g⟩
theorem wa_5 {w : Cond} (h : w ∈ tables_1_5) (g : goodWord w = true) : w ∈ WA := List.mem_filter.mpr ⟨List.mem_append_right _ (List.mem_append_right _ (List.mem_append_right _ (List.mem_append_right _ (List.mem_append_right _ h)))), g⟩
theorem wl_LP_0 : u_lay R_LP F_LP 0 ∈ WA := wa_2 (List.mem_of_getElem? (i := 33) (by decide +kernel)) (by decide +kernel)
theorem wl_LP_1 : u_lay R_LP F_LP 1 ∈ WA := wa_2 (List.mem_of_getElem? (i := 35) (by decide +kernel)) (by decide +kernel)
theorem wl_LP_2 : u_lay R_LP F_LP 2 ∈ WA := wa_2 (List.mem_of_getElem? (i := 37) (by decide +kernel)) (by decide +kernel)
theorem wl_LP_3 : u_lay R_LP F_LP 3 ∈ WA := wa_2 (List.mem_of_getElem? (i := 39) (by decide +kernel)) (by decide +kernel)
theorem wl_LP_4 : u_lay R_LP F_LP 4 ∈ WA := wa_2 (List.mem_of_getElem? (i := 41) (by decide +kernel)) (by decide +kernel)
theorem wl_LP_5 : u_lay R_LP F_LP 5 ∈ WA := wa_2 (List.mem_of_getElem? (i := 43) (by decide +kernel)) (by decide +kernel)
theorem wl_LP_6 : u_lay R_LP F_LP 6 ∈ WA := wa_2 (List.mem_of_getElem? (i := 45) (by decide +kernel)) (by decide +kernel)
theorem wl_LP_7 : u_lay R_LP F_LP 7 ∈ WA := wa_2 (List.mem_of_getElem? (i := 47) (by decide +kernel)) (by decide +kernel)
theorem wi_LP : ∀ w ∈ u_ws R_LP F_LP 8, w ∈ WA := by
  intro w hw
  obtain ⟨k, hk, rfl⟩ := List.mem_map.mp hw
  have hk := List.mem_range.mp hk
  match k, hk with
  | 0, _ => exact wl_LP_0
  | 1, _ => exact wl_LP_1
  | 2, _ => exact wl_LP_2
  | 3, _ => exact wl_LP_3
  | 4, _ => exact wl_LP_4
  | 5, _ => exact wl_LP_5
  | 6, _ => exact wl_LP_6
  | 7, _ => exact wl_LP_7
  | k + 8, hk => exact absurd hk (by omega)
theorem ty_LP : ∀ k, k < 8 → parseFieldDescriptor (F_LP k).2.2.1 = some (t_LP k) := by decide +kernel
theorem nn_LP : ∀ a, a < 8 → ∀ b, b < 8 → a ≠ b → (F_LP a).2.1 ≠ (F_LP b).2.1 := by decide +kernel
theorem wl_Srv_0 : u_lay R_Srv F_Srv 0 ∈ WA := wa_1 (List.mem_of_getElem? (i := 112) (by decide +kernel)) (by decide +kernel)
theorem wl_Srv_1 : u_lay R_Srv F_Srv 1 ∈ WA := wa_1 (List.mem_of_getElem? (i := 114) (by decide +kernel)) (by decide +kernel)
theorem wl_Srv_2 : u_lay R_Srv F_Srv 2 ∈ WA := wa_1 (List.mem_of_getElem? (i := 116) (by decide +kernel)) (by decide +kernel)
theorem wl_Srv_3 : u_lay R_Srv F_Srv 3 ∈ WA := wa_1 (List.mem_of_getElem? (i := 118) (by decide +kernel)) (by decide +kernel)
theorem wl_Srv_4 : u_lay R_Srv F_Srv 4 ∈ WA := wa_1 (List.mem_of_getElem? (i := 120) (by decide +kernel)) (by decide +kernel)
theorem wl_Srv_5 : u_lay R_Srv F_Srv 5 ∈ WA := wa_1 (List.mem_of_getElem? (i := 122) (by decide +kernel)) (by decide +kernel)
theorem wl_Srv_6 : u_lay R_Srv F_Srv 6 ∈ WA := wa_1 (List.mem_of_getElem? (i := 124) (by decide +kernel)) (by decide +kernel)
theorem wl_Srv_7 : u_lay R_Srv F_Srv 7 ∈ WA := wa_1 (List.mem_of_getElem? (i := 126) (by decide +kernel)) (by decide +kernel)
theorem wl_Srv_8 : u_lay R_Srv F_Srv 8 ∈ WA := wa_1 (List.mem_of_getElem? (i := 128) (by decide +kernel)) (by decide +kernel)
theorem wl_Srv_9 : u_lay R_Srv F_Srv 9 ∈ WA := wa_1 (List.mem_of_getElem? (i := 130) (by decide +kernel)) (by decide +kernel)
theorem wl_Srv_10 : u_lay R_Srv F_Srv 10 ∈ WA := wa_1 (List.mem_of_getElem? (i := 132) (by decide +kernel)) (by decide +kernel)
theorem wl_Srv_11 : u_lay R_Srv F_Srv 11 ∈ WA := wa_1 (List.mem_of_getElem? (i := 134) (by decide +kernel)) (by decide +kernel)
theorem wl_Srv_12 : u_lay R_Srv F_Srv 12 ∈ WA := wa_1 (List.mem_of_getElem? (i := 136) (by decide +kernel)) (by decide +kernel)
theorem wi_Srv : ∀ w ∈ u_ws R_Srv F_Srv 13, w ∈ WA := by
  intro w hw
  obtain ⟨k, hk, rfl⟩ := List.mem_map.mp hw
  have hk := List.mem_range.mp hk
  match k, hk with
  | 0, _ => exact wl_Srv_0
  | 1, _ => exact wl_Srv_1
  | 2, _ => exact wl_Srv_2
  | 3, _ => exact wl_Srv_3
  | 4, _ => exact wl_Srv_4
  | 5, _ => exact wl_Srv_5
  | 6, _ => exact wl_Srv_6
  | 7, _ => exact wl_Srv_7
  | 8, _ => exact wl_Srv_8
  | 9, _ => exact wl_Srv_9
  | 10, _ => exact wl_Srv_10
  | 11, _ => exact wl_Srv_11
  | 12, _ => exact wl_Srv_12
  | k + 13, hk => exact absurd hk (by omega)
theorem ty_Srv : ∀ k, k < 13 → parseFieldDescriptor (F_Srv k).2.2.1 = some (t_Srv k) := by decide +kernel
theorem nn_Srv : ∀ a, a < 13 → ∀ b, b < 13 → a ≠ b → (F_Srv a).2.1 ≠ (F_Srv b).2.1 := by decide +kernel
theorem wl_Rec_0 : u_lay R_Rec F_Rec 0 ∈ WA := wa_1 (List.mem_of_getElem? (i := 68) (by decide +kernel)) (by decide +kernel)
theorem wl_Rec_1 : u_lay R_Rec F_Rec 1 ∈ WA := wa_1 (List.mem_of_getElem? (i := 70) (by decide +kernel)) (by decide +kernel)
theorem wl_Rec_2 : u_lay R_Rec F_Rec 2 ∈ WA := wa_1 (List.mem_of_getElem? (i := 72) (by decide +kernel)) (by decide +kernel)
theorem wl_Rec_3 : u_lay R_Rec F_Rec 3 ∈ WA := wa_1 (List.mem_of_getElem? (i := 74) (by decide +kernel)) (by decide +kernel)
theorem wl_Rec_4 : u_lay R_Rec F_Rec 4 ∈ WA := wa_1 (List.mem_of_getElem? (i := 76) (by decide +kernel)) (by decide +kernel)
theorem wl_Rec_5 : u_lay R_Rec F_Rec 5 ∈ WA := wa_1 (List.mem_of_getElem? (i := 78) (by decide +kernel)) (by decide +kernel)
theorem wl_Rec_6 : u_lay R_Rec F_Rec 6 ∈ WA := wa_1 (List.mem_of_getElem? (i := 80) (by decide +kernel)) (by decide +kernel)
theorem wl_Rec_7 : u_lay R_Rec F_Rec 7 ∈ WA := wa_1 (List.mem_of_getElem? (i := 82) (by decide +kernel)) (by decide +kernel)
theorem wl_Rec_8 : u_lay R_Rec F_Rec 8 ∈ WA := wa_1 (List.mem_of_getElem? (i := 84) (by decide +kernel)) (by decide +kernel)
theorem wl_Rec_9 : u_lay R_Rec F_Rec 9 ∈ WA := wa_1 (List.mem_of_getElem? (i := 86) (by decide +kernel)) (by decide +kernel)
theorem wl_Rec_10 : u_lay R_Rec F_Rec 10 ∈ WA := wa_1 (List.mem_of_getElem? (i := 88) (by decide +kernel)) (by decide +kernel)
theorem wl_Rec_11 : u_lay R_Rec F_Rec 11 ∈ WA := wa_1 (List.mem_of_getElem? (i := 90) (by decide +kernel)) (by decide +kernel)
theorem wl_Rec_12 : u_lay R_Rec F_Rec 12 ∈ WA := wa_1 (List.mem_of_getElem? (i := 92) (by decide +kernel)) (by decide +kernel)
theorem wi_Rec : ∀ w ∈ u_ws R_Rec F_Rec 13, w ∈ WA := by
  intro w hw
  obtain ⟨k, hk, rfl⟩ := List.mem_map.mp hw
  have hk := List.mem_range.mp hk
  match k, hk with
  | 0, _ => exact wl_Rec_0
  | 1, _ => exact wl_Rec_1
  | 2, _ => exact wl_Rec_2
  | 3, _ => exact wl_Rec_3
  | 4, _ => exact wl_Rec_4
  | 5, _ => exact wl_Rec_5
  | 6, _ => exact wl_Rec_6
  | 7, _ => exact wl_Rec_7
  | 8, _ => exact wl_Rec_8
  | 9, _ => exact wl_Rec_9
  | 10, _ => exact wl_Rec_10
  | 11, _ => exact wl_Rec_11
  | 12, _ => exact wl_Rec_12
  | k + 13, hk => exact absurd hk (by omega)
theorem ty_Rec : ∀ k, k < 13 → parseFieldDescriptor (F_Rec k).2.2.1 = some (t_Rec k) := by decide +kernel
theorem nn_Rec : ∀ a, a < 13 → ∀ b, b < 13 → a ≠ b → (F_Rec a).2.1 ≠ (F_Rec b).2.1 := by decide +kernel
theorem wl_Cli_0 : u_lay R_Cli F_Cli 0 ∈ WA := wa_1 (List.mem_of_getElem? (i := 153) (by decide +kernel)) (by decide +kernel)
theorem wl_Cli_1 : u_lay R_Cli F_Cli 1 ∈ WA := wa_1 (List.mem_of_getElem? (i := 155) (by decide +kernel)) (by decide +kernel)
theorem wl_Cli_2 : u_lay R_Cli F_Cli 2 ∈ WA := wa_1 (List.mem_of_getElem? (i := 157) (by decide +kernel)) (by decide +kernel)
theorem wl_Cli_3 : u_lay R_Cli F_Cli 3 ∈ WA := wa_1 (List.mem_of_getElem? (i := 159) (by decide +kernel)) (by decide +kernel)
theorem wi_Cli : ∀ w ∈ u_ws R_Cli F_Cli 4, w ∈ WA := by
  intro w hw
  obtain ⟨k, hk, rfl⟩ := List.mem_map.mp hw
  have hk := List.mem_range.mp hk
  match k, hk with
  | 0, _ => exact wl_Cli_0
  | 1, _ => exact wl_Cli_1
  | 2, _ => exact wl_Cli_2
  | 3, _ => exact wl_Cli_3
  | k + 4, hk => exact absurd hk (by omega)
theorem ty_Cli : ∀ k, k < 4 → parseFieldDescriptor (F_Cli k).2.2.1 = some (t_Cli k) := by decide +kernel
theorem nn_Cli : ∀ a, a < 4 → ∀ b, b < 4 → a ≠ b → (F_Cli a).2.1 ≠ (F_Cli b).2.1 := by decide +kernel
theorem wl_Net_0 : u_lay R_Net F_Net 0 ∈ WA := wa_2 (List.mem_of_getElem? (i := 12) (by decide +kernel)) (by decide +kernel)
theorem wl_Net_1 : u_lay R_Net F_Net 1 ∈ WA := wa_2 (List.mem_of_getElem? (i := 14) (by decide +kernel)) (by decide +kernel)
theorem wl_Net_2 : u_lay R_Net F_Net 2 ∈ WA := wa_2 (List.mem_of_getElem? (i := 16) (by decide +kernel)) (by decide +kernel)
theorem wl_Net_3 : u_lay R_Net F_Net 3 ∈ WA := wa_2 (List.mem_of_getElem? (i := 18) (by decide +kernel)) (by decide +kernel)
theorem wl_Net_4 : u_lay R_Net F_Net 4 ∈ WA := wa_2 (List.mem_of_getElem? (i := 20) (by decide +kernel)) (by decide +kernel)
theorem wi_Net : ∀ w ∈ u_ws R_Net F_Net 5, w ∈ WA := by
  intro w hw
  obtain ⟨k, hk, rfl⟩ := List.mem_map.mp hw
  have hk := List.mem_range.mp hk
  match k, hk with
  | 0, _ => exact wl_Net_0
  | 1, _ => exact wl_Net_1
  | 2, _ => exact wl_Net_2
  | 3, _ => exact wl_Net_3
  | 4, _ => exact wl_Net_4
  | k + 5, hk => exact absurd hk (by omega)
theorem ty_Net : ∀ k, k < 5 → parseFieldDescriptor (F_Net k).2.2.1 = some (t_Net k) := by decide +kernel
theorem nn_Net : ∀ a, a < 5 → ∀ b, b < 5 → a ≠ b → (F_Net a).2.1 ≠ (F_Net b).2.1 := by decide +kernel
theorem wl_Msg_0 : u_lay R_Msg F_Msg 0 ∈ WA := wa_1 (List.mem_of_getElem? (i := 215) (by decide +kernel)) (by decide +kernel)
theorem wl_Msg_1 : u_lay R_Msg F_Msg 1 ∈ WA := wa_1 (List.mem_of_getElem? (i := 217) (by decide +kernel)) (by decide +kernel)
theorem wl_Msg_2 : u_lay R_Msg F_Msg 2 ∈ WA := wa_1 (List.mem_of_getElem? (i := 219) (by decide +kernel)) (by decide +kernel)
theorem wl_Msg_3 : u_lay R_Msg F_Msg 3 ∈ WA := wa_1 (List.mem_of_getElem? (i := 221) (by decide +kernel)) (by decide +kernel)
theorem wl_Msg_4 : u_lay R_Msg F_Msg 4 ∈ WA := wa_1 (List.mem_of_getElem? (i := 223) (by decide +kernel)) (by decide +kernel)
theorem wl_Msg_5 : u_lay R_Msg F_Msg 5 ∈ WA := wa_1 (List.mem_of_getElem? (i := 225) (by decide +kernel)) (by decide +kernel)
theorem wl_Msg_6 : u_lay R_Msg F_Msg 6 ∈ WA := wa_1 (List.mem_of_getElem? (i := 227) (by decide +kernel)) (by decide +kernel)
theorem wl_Msg_7 : u_lay R_Msg F_Msg 7 ∈ WA := wa_1 (List.mem_of_getElem? (i := 229) (by decide +kernel)) (by decide +kernel)
theorem wl_Msg_8 : u_lay R_Msg F_Msg 8 ∈ WA := wa_1 (List.mem_of_getElem? (i := 231) (by decide +kernel)) (by decide +kernel)
theorem wl_Msg_9 : u_lay R_Msg F_Msg 9 ∈ WA := wa_1 (List.mem_of_getElem? (i := 233) (by decide +kernel)) (by decide +kernel)
theorem wl_Msg_10 : u_lay R_Msg F_Msg 10 ∈ WA := wa_1 (List.mem_of_getElem? (i := 235) (by decide +kernel)) (by decide +kernel)
theorem wl_Msg_11 : u_lay R_Msg F_Msg 11 ∈ WA := wa_1 (List.mem_of_getElem? (i := 237) (by decide +kernel)) (by decide +kernel)
theorem wl_Msg_12 : u_lay R_Msg F_Msg 12 ∈ WA := wa_1 (List.mem_of_getElem? (i := 239) (by decide +kernel)) (by decide +kernel)
theorem wl_Msg_13 : u_lay R_Msg F_Msg 13 ∈ WA := wa_2 (List.mem_of_getElem? (i := 1) (by decide +kernel)) (by decide +kernel)
theorem wl_Msg_14 : u_lay R_Msg F_Msg 14 ∈ WA := wa_2 (List.mem_of_getElem? (i := 3) (by decide +kernel)) (by decide +kernel)
theorem wi_Msg : ∀ w ∈ u_ws R_Msg F_Msg 15, w ∈ WA := by
  intro w hw
  obtain ⟨k, hk, rfl⟩ := List.mem_map.mp hw
  have hk := List.mem_range.mp hk
  match k, hk with
  | 0, _ => exact wl_Msg_0
  | 1, _ => exact wl_Msg_1
  | 2, _ => exact wl_Msg_2
  | 3, _ => exact wl_Msg_3
  | 4, _ => exact wl_Msg_4
  | 5, _ => exact wl_Msg_5
  | 6, _ => exact wl_Msg_6
  | 7, _ => exact wl_Msg_7
  | 8, _ => exact wl_Msg_8
  | 9, _ => exact wl_Msg_9
  | 10, _ => exact wl_Msg_10
  | 11, _ => exact wl_Msg_11
  | 12, _ => exact wl_Msg_12
  | 13, _ => exact wl_Msg_13
  | 14, _ => exact wl_Msg_14
  | k + 15, hk => exact absurd hk (by omega)
theorem ty_Msg : ∀ k, k < 15 → parseFieldDescriptor (F_Msg k).2.2.1 = some (t_Msg k) := by decide +kernel
theorem nn_Msg : ∀ a, a < 15 → ∀ b, b < 15 → a ≠ b → (F_Msg a).2.1 ≠ (F_Msg b).2.1 := by decide +kernel
theorem wl_Mod_0 : u_lay R_Mod F_Mod 0 ∈ WA := wa_4 (List.mem_of_getElem? (i := 87) (by decide +kernel)) (by decide +kernel)
theorem wl_Mod_1 : u_lay R_Mod F_Mod 1 ∈ WA := wa_4 (List.mem_of_getElem? (i := 89) (by decide +kernel)) (by decide +kernel)
theorem wl_Mod_2 : u_lay R_Mod F_Mod 2 ∈ WA := wa_4 (List.mem_of_getElem? (i := 91) (by decide +kernel)) (by decide +kernel)
theorem wl_Mod_3 : u_lay R_Mod F_Mod 3 ∈ WA := wa_4 (List.mem_of_getElem? (i := 93) (by decide +kernel)) (by decide +kernel)
theorem wl_Mod_4 : u_lay R_Mod F_Mod 4 ∈ WA := wa_4 (List.mem_of_getElem? (i := 95) (by decide +kernel)) (by decide +kernel)
theorem wl_Mod_5 : u_lay R_Mod F_Mod 5 ∈ WA := wa_4 (List.mem_of_getElem? (i := 97) (by decide +kernel)) (by decide +kernel)
theorem wl_Mod_6 : u_lay R_Mod F_Mod 6 ∈ WA := wa_4 (List.mem_of_getElem? (i := 99) (by decide +kernel)) (by decide +kernel)
theorem wl_Mod_7 : u_lay R_Mod F_Mod 7 ∈ WA := wa_4 (List.mem_of_getElem? (i := 101) (by decide +kernel)) (by decide +kernel)
theorem wl_Mod_8 : u_lay R_Mod F_Mod 8 ∈ WA := wa_4 (List.mem_of_getElem? (i := 103) (by decide +kernel)) (by decide +kernel)
theorem wl_Mod_9 : u_lay R_Mod F_Mod 9 ∈ WA := wa_4 (List.mem_of_getElem? (i := 105) (by decide +kernel)) (by decide +kernel)
theorem wl_Mod_10 : u_lay R_Mod F_Mod 10 ∈ WA := wa_4 (List.mem_of_getElem? (i := 107) (by decide +kernel)) (by decide +kernel)
theorem wl_Mod_11 : u_lay R_Mod F_Mod 11 ∈ WA := wa_4 (List.mem_of_getElem? (i := 109) (by decide +kernel)) (by decide +kernel)
theorem wl_Mod_12 : u_lay R_Mod F_Mod 12 ∈ WA := wa_4 (List.mem_of_getElem? (i := 111) (by decide +kernel)) (by decide +kernel)
theorem wl_Mod_13 : u_lay R_Mod F_Mod 13 ∈ WA := wa_4 (List.mem_of_getElem? (i := 113) (by decide +kernel)) (by decide +kernel)
theorem wl_Mod_14 : u_lay R_Mod F_Mod 14 ∈ WA := wa_4 (List.mem_of_getElem? (i := 115) (by decide +kernel)) (by decide +kernel)
theorem wl_Mod_15 : u_lay R_Mod F_Mod 15 ∈ WA := wa_4 (List.mem_of_getElem? (i := 117) (by decide +kernel)) (by decide +kernel)
theorem wl_Mod_16 : u_lay R_Mod F_Mod 16 ∈ WA := wa_4 (List.mem_of_getElem? (i := 119) (by decide +kernel)) (by decide +kernel)
theorem wl_Mod_17 : u_lay R_Mod F_Mod 17 ∈ WA := wa_4 (List.mem_of_getElem? (i := 121) (by decide +kernel)) (by decide +kernel)
theorem wl_Mod_18 : u_lay R_Mod F_Mod 18 ∈ WA := wa_4 (List.mem_of_getElem? (i := 123) (by decide +kernel)) (by decide +kernel)
theorem wl_Mod_19 : u_lay R_Mod F_Mod 19 ∈ WA := wa_4 (List.mem_of_getElem? (i := 125) (by decide +kernel)) (by decide +kernel)
theorem wl_Mod_20 : u_lay R_Mod F_Mod 20 ∈ WA := wa_4 (List.mem_of_getElem? (i := 127) (by decide +kernel)) (by decide +kernel)
theorem wl_Mod_21 : u_lay R_Mod F_Mod 21 ∈ WA := wa_4 (List.mem_of_getElem? (i := 129) (by decide +kernel)) (by decide +kernel)
theorem wl_Mod_22 : u_lay R_Mod F_Mod 22 ∈ WA := wa_4 (List.mem_of_getElem? (i := 131) (by decide +kernel)) (by decide +kernel)
theorem wl_Mod_23 : u_lay R_Mod F_Mod 23 ∈ WA := wa_4 (List.mem_of_getElem? (i := 133) (by decide +kernel)) (by decide +kernel)
theorem wl_Mod_24 : u_lay R_Mod F_Mod 24 ∈ WA := wa_4 (List.mem_of_getElem? (i := 135) (by decide +kernel)) (by decide +kernel)
theorem wl_Mod_25 : u_lay R_Mod F_Mod 25 ∈ WA := wa_4 (List.mem_of_getElem? (i := 137) (by decide +kernel)) (by decide +kernel)
theorem wl_Mod_26 : u_lay R_Mod F_Mod 26 ∈ WA := wa_4 (List.mem_of_getElem? (i := 139) (by decide +kernel)) (by decide +kernel)
theorem wl_Mod_27 : u_lay R_Mod F_Mod 27 ∈ WA := wa_4 (List.mem_of_getElem? (i := 141) (by decide +kernel)) (by decide +kernel)
theorem wl_Mod_28 : u_lay R_Mod F_Mod 28 ∈ WA := wa_4 (List.mem_of_getElem? (i := 143) (by decide +kernel)) (by decide +kernel)
theorem wl_Mod_29 : u_lay R_Mod F_Mod 29 ∈ WA := wa_4 (List.mem_of_getElem? (i := 145) (by decide +kernel)) (by decide +kernel)
theorem wl_Mod_30 : u_lay R_Mod F_Mod 30 ∈ WA := wa_4 (List.mem_of_getElem? (i := 147) (by decide +kernel)) (by decide +kernel)
theorem wl_Mod_31 : u_lay R_Mod F_Mod 31 ∈ WA := wa_4 (List.mem_of_getElem? (i := 149) (by decide +kernel)) (by decide +kernel)
theorem wl_Mod_32 : u_lay R_Mod F_Mod 32 ∈ WA := wa_4 (List.mem_of_getElem? (i := 151) (by decide +kernel)) (by decide +kernel)
theorem wl_Mod_33 : u_lay R_Mod F_Mod 33 ∈ WA := wa_4 (List.mem_of_getElem? (i := 153) (by decide +kernel)) (by decide +kernel)
theorem wl_Mod_34 : u_lay R_Mod F_Mod 34 ∈ WA := wa_4 (List.mem_of_getElem? (i := 155) (by decide +kernel)) (by decide +kernel)
theorem wl_Mod_35 : u_lay R_Mod F_Mod 35 ∈ WA := wa_4 (List.mem_of_getElem? (i := 157) (by decide +kernel)) (by decide +kernel)
theorem wi_Mod : ∀ w ∈ u_ws R_Mod F_Mod 36, w ∈ WA := by
  intro w hw
  obtain ⟨k, hk, rfl⟩ := List.mem_map.mp hw
  have hk := List.mem_range.mp hk
  match k, hk with
  | 0, _ => exact wl_Mod_0
  | 1, _ => exact wl_Mod_1
  | 2, _ => exact wl_Mod_2
  | 3, _ => exact wl_Mod_3
  | 4, _ => exact wl_Mod_4
  | 5, _ => exact wl_Mod_5
  | 6, _ => exact wl_Mod_6
  | 7, _ => exact wl_Mod_7
  | 8, _ => exact wl_Mod_8
  | 9, _ => exact wl_Mod_9
  | 10, _ => exact wl_Mod_10
  | 11, _ => exact wl_Mod_11
  | 12, _ => exact wl_Mod_12
  | 13, _ => exact wl_Mod_13
  | 14, _ => exact wl_Mod_14
  | 15, _ => exact wl_Mod_15
  | 16, _ => exact wl_Mod_16
  | 17, _ => exact wl_Mod_17
  | 18, _ => exact wl_Mod_18
  | 19, _ => exact wl_Mod_19
  | 20, _ => exact wl_Mod_20
  | 21, _ => exact wl_Mod_21
  | 22, _ => exact wl_Mod_22
  | 23, _ => exact wl_Mod_23
  | 24, _ => exact wl_Mod_24
  | 25, _ => exact wl_Mod_25
  | 26, _ => exact wl_Mod_26
  | 27, _ => exact wl_Mod_27
  | 28, _ => exact wl_Mod_28
  | 29, _ => exact wl_Mod_29
  | 30, _ => exact wl_Mod_30
  | 31, _ => exact wl_Mod_31
  | 32, _ => exact wl_Mod_32
  | 33, _ => exact wl_Mod_33
  | 34, _ => exact wl_Mod_34
  | 35, _ => exact wl_Mod_35
  | k + 36, hk => exact absurd hk (by omega)
theorem ty_Mod : ∀ k, k < 36 → parseFieldDescriptor (F_Mod k).2.2.1 = some (t_Mod k) := by decide +kernel
theorem nn_Mod : ∀ a, a < 36 → ∀ b, b < 36 → a ≠ b → (F_Mod a).2.1 ≠ (F_Mod b).2.1 := by decide +kernel
theorem cls_in : ∀ (ci : Nat) (r : vw_C), classes[ci]? = some r → ∀ w ∈ u_ws r.1 r.2.1 r.2.2, w ∈ WA := fun ci r h => match ci, h with
  | 0, h => by cases h; exact wi_LP
  | 1, h => by cases h; exact wi_Srv
  | 2, h => by cases h; exact wi_Rec
  | 3, h => by cases h; exact wi_Cli
  | 4, h => by cases h; exact wi_Net
  | 5, h => by cases h; exact wi_Msg
  | 6, h => by cases h; exact wi_Mod
  | n + 7, h => by simp [classes] at h
theorem cls_ty : ∀ (ci : Nat) (r : vw_C), classes[ci]? = some r → ∀ k, k < r.2.2 → parseFieldDescriptor (r.2.1 k).2.2.1 = some (ftyp ci k) := fun ci r h => match ci, h with
  | 0, h => by cases h; exact ty_LP
  | 1, h => by cases h; exact ty_Srv
  | 2, h => by cases h; exact ty_Rec
  | 3, h => by cases h; exact ty_Cli
  | 4, h => by cases h; exact ty_Net
  | 5, h => by cases h; exact ty_Msg
  | 6, h => by cases h; exact ty_Mod
  | n + 7, h => by simp [classes] at h
theorem cls_nm : ∀ (ci : Nat) (r : vw_C), classes[ci]? = some r → ∀ a, a < r.2.2 → ∀ b, b < r.2.2 → a ≠ b → (r.2.1 a).2.1 ≠ (r.2.1 b).2.1 := fun ci r h => match ci, h with
  | 0, h => by cases h; exact nn_LP
  | 1, h => by cases h; exact nn_Srv
  | 2, h => by cases h; exact nn_Rec
  | 3, h => by cases h; exact nn_Cli
  | 4, h => by cases h; exact nn_Net
  | 5, h => by cases h; exact nn_Msg
  | 6, h => by cases h; exact nn_Mod
  | n + 7, h => by simp [classes] at h
theorem cls_nf : ∀ (ci : Nat) (r : vw_C), classes[ci]? = some r → ci < 7 ∧ r.2.2 = nf ci := fun ci r h => match ci, h with
  | 0, h => by cases h; exact ⟨by decide, rfl⟩
  | 1, h => by cases h; exact ⟨by decide, rfl⟩
  | 2, h => by cases h; exact ⟨by decide, rfl⟩
  | 3, h => by cases h; exact ⟨by decide, rfl⟩
  | 4, h => by cases h; exact ⟨by decide, rfl⟩
  | 5, h => by cases h; exact ⟨by decide, rfl⟩
  | 6, h => by cases h; exact ⟨by decide, rfl⟩
  | n + 7, h => by simp [classes] at h
theorem rg {n i : Nat} {p : Nat → Bool} (h : (List.range n).all p = true) (hi : i < n) : p i = true := List.all_eq_true.mp h i (List.mem_range.mpr hi)
theorem tb_ff0 : ((List.range 7).all fun ci => (List.range (nf ci)).all fun k => (List.range 7).all fun ci' => (List.range (nf ci')).all fun k' => decide (cinf ci k = cinf ci' k' → ci = ci' ∧ k = k')) = true := by decide +kernel
theorem tb_ff (ci : Nat) (h1 : ci < 7) (k : Nat) (h2 : k < nf ci) (ci' : Nat) (h3 : ci' < 7) (k' : Nat) (h4 : k' < nf ci') : cinf ci k = cinf ci' k' → ci = ci' ∧ k = k' := of_decide_eq_true (rg (rg (rg (rg tb_ff0 h1) h2) h3) h4)
theorem tbl_ff {ci k ci' k' : Nat} {r r' : vw_C} (hr : classes[ci]? = some r) (hk : k < r.2.2) (hr' : classes[ci']? = some r') (hk' : k' < r'.2.2) (h : cinf ci k = cinf ci' k') : ci = ci' ∧ k = k' := by
  obtain ⟨a, b⟩ := cls_nf ci r hr
  obtain ⟨a', b'⟩ := cls_nf ci' r' hr'
  exact tb_ff ci a k (b ▸ hk) ci' a' k' (b' ▸ hk') h
theorem tb_rr0 : ((List.range 7).all fun ci => (List.range (nf ci)).all fun k => (List.range 7).all fun ci' => (List.range (nf ci')).all fun k' => decide ((cinf ci k).1 = true → (cinf ci' k').1 = true → (cinf ci k).2.2 = (cinf ci' k').2.2 → ci = ci' ∧ k = k')) = true := by decide +kernel
theorem tb_rr (ci : Nat) (h1 : ci < 7) (k : Nat) (h2 : k < nf ci) (ci' : Nat) (h3 : ci' < 7) (k' : Nat) (h4 : k' < nf ci') : (cinf ci k).1 = true → (cinf ci' k').1 = true → (cinf ci k).2.2 = (cinf ci' k').2.2 → ci = ci' ∧ k = k' := of_decide_eq_true (rg (rg (rg (rg tb_rr0 h1) h2) h3) h4)
theorem tbl_rr {ci k ci' k' : Nat} {r r' : vw_C} (hr : classes[ci]? = some r) (hk : k < r.2.2) (hr' : classes[ci']? = some r') (hk' : k' < r'.2.2) (h1 : (cinf ci k).1 = true) (h2 : (cinf ci' k').1 = true) (h : (cinf ci k).2.2 = (cinf ci' k').2.2) : ci = ci' ∧ k = k' := by
  obtain ⟨a, b⟩ := cls_nf ci r hr
  obtain ⟨a', b'⟩ := cls_nf ci' r' hr'
  exact tb_rr ci a k (b ▸ hk) ci' a' k' (b' ▸ hk') h1 h2 h
theorem tb_fa0 : ((List.range 7).all fun ci => (List.range (nf ci)).all fun k => (List.range 60).all fun a => decide ((cinf ci k).1 = false → ¬ ((ainf a).1 = 0 ∧ (ainf a).2 = (cinf ci k).2))) = true := by decide +kernel
theorem tb_fa (ci : Nat) (h1 : ci < 7) (k : Nat) (h2 : k < nf ci) (a : Nat) (h3 : a < 60) : (cinf ci k).1 = false → ¬ ((ainf a).1 = 0 ∧ (ainf a).2 = (cinf ci k).2) := of_decide_eq_true (rg (rg (rg tb_fa0 h1) h2) h3)
theorem tbl_fa {ci k a b col : Nat} {r : vw_C} (hr : classes[ci]? = some r) (hk : k < r.2.2) (hc : cinf ci k = (false, b, col)) (ha : a < 60) : ainf a ≠ (0, b, col) := by
  obtain ⟨h1, h2⟩ := cls_nf ci r hr
  intro h
  exact tb_fa ci h1 k (h2 ▸ hk) a ha (by rw [hc]) ⟨by rw [h], by rw [h, hc]⟩
theorem tb_ra0 : ((List.range 7).all fun ci => (List.range (nf ci)).all fun k => (List.range 60).all fun a => decide ((cinf ci k).1 = true → (ainf a).1 ≠ 0 → (ainf a).2.2 ≠ (cinf ci k).2.2)) = true := by decide +kernel
theorem tb_ra (ci : Nat) (h1 : ci < 7) (k : Nat) (h2 : k < nf ci) (a : Nat) (h3 : a < 60) : (cinf ci k).1 = true → (ainf a).1 ≠ 0 → (ainf a).2.2 ≠ (cinf ci k).2.2 := of_decide_eq_true (rg (rg (rg tb_ra0 h1) h2) h3)
theorem tbl_ra {ci k a b col : Nat} {r : vw_C} (hr : classes[ci]? = some r) (hk : k < r.2.2) (hc : cinf ci k = (true, b, col)) (ha : a < 60) (h0 : (ainf a).1 ≠ 0) : (ainf a).2.2 ≠ col := by
  obtain ⟨h1, h2⟩ := cls_nf ci r hr
  have := tb_ra ci h1 k (h2 ▸ hk) a ha (by rw [hc]) h0
  rw [hc] at this
  exact this
theorem tb_aa : ∀ a, a < 60 → ∀ b, b < 60 → ainf a = ainf b → a = b := by decide +kernel
theorem tbl_aa {a b : Nat} (ha : a < 60) (hb : b < 60) (h : ainf a = ainf b) : a = b := tb_aa a ha b hb h
theorem tb_rr2 : ∀ a, a < 60 → ∀ b, b < 60 → (ainf a).1 ≠ 0 → (ainf b).1 ≠ 0 → (ainf a).2.2 = (ainf b).2.2 → a = b := by decide +kernel
theorem tbl_rr2 {a b : Nat} (ha : a < 60) (hb : b < 60) (h1 : (ainf a).1 ≠ 0) (h2 : (ainf b).1 ≠ 0) (h : (ainf a).2.2 = (ainf b).2.2) : a = b := tb_rr2 a ha b hb h1 h2 h
