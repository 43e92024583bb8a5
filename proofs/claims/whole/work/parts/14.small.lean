section JE
variable {X : Jx} {cc : ByteArray} {own : String} {K : Kx} {V : Vx} {A B C D : MI} {P : MP} {cells slots pc : Nat} {lv : List (Nat × Value)} {st : List Value}
theorem j_get0e (h : OkX X cc own K) {idx ci k i col : Nat} {v : Int32} (d : decode cc pc = .ok (.getfield idx, 3)) (w : FL own idx ci k) (hc : cinf ci k = (false, 0, col)) (hv : V.1 ci i) (he : A col i = v) (kk : J X K V (bk4 A B C D) P cells slots (pc + 3) lv (.int v :: st)) : J X K V (bk4 A B C D) P cells slots pc lv (.ref (K.ad ci i) :: st) := j_get0 h d w hc hv (by rw [he]; exact kk)
theorem j_get1e (h : OkX X cc own K) {idx ci k i col : Nat} {v : Int32} (d : decode cc pc = .ok (.getfield idx, 3)) (w : FL own idx ci k) (hc : cinf ci k = (false, 1, col)) (hv : V.1 ci i) (he : B col i = v) (kk : J X K V (bk4 A B C D) P cells slots (pc + 3) lv (.int v :: st)) : J X K V (bk4 A B C D) P cells slots pc lv (.ref (K.ad ci i) :: st) := j_get1 h d w hc hv (by rw [he]; exact kk)
theorem j_get2e (h : OkX X cc own K) {idx ci k i col : Nat} {v : Int32} (d : decode cc pc = .ok (.getfield idx, 3)) (w : FL own idx ci k) (hc : cinf ci k = (false, 2, col)) (hv : V.1 ci i) (he : C col i = v) (kk : J X K V (bk4 A B C D) P cells slots (pc + 3) lv (.int v :: st)) : J X K V (bk4 A B C D) P cells slots pc lv (.ref (K.ad ci i) :: st) := j_get2 h d w hc hv (by rw [he]; exact kk)
theorem j_get3e (h : OkX X cc own K) {idx ci k i col : Nat} {v : Int32} (d : decode cc pc = .ok (.getfield idx, 3)) (w : FL own idx ci k) (hc : cinf ci k = (false, 3, col)) (hv : V.1 ci i) (he : D col i = v) (kk : J X K V (bk4 A B C D) P cells slots (pc + 3) lv (.int v :: st)) : J X K V (bk4 A B C D) P cells slots pc lv (.ref (K.ad ci i) :: st) := j_get3 h d w hc hv (by rw [he]; exact kk)
end JE
/-! what records, messages tell; clients; small methods of servers -/
def rtell (A : MI) (r w : Nat) : Int32 := match w with
  | 0 => A 10 r
  | 1 => A 11 r
  | 2 => A 12 r
  | 3 => A 13 r
  | 4 => A 15 r
  | 5 => A 18 r
  | 6 => A 19 r
  | 7 => A 20 r
  | 8 => A 16 r
  | _ => (if A 17 r = 0 then 0 else 1) + (if A 14 r = 0 then 0 else 2) + (if A 21 r = 0 then 0 else 4)
def clReq (A : MI) (c : Nat) (k : Int32) : MI := if k = 2 then up (up (up (up A 32 c (A 32 c + 1)) 33 c k) 30 c (-1)) 31 c 0 else up (up A 32 c (A 32 c + 1)) 33 c k
def mBegin (B : MI) (q : Nat) (t f g : Int32) : MI := up (up (up (up (up (up B 80 q t) 82 q f) 81 q g) 83 q 0) 84 q (-1)) 86 q 0
theorem d_Rec_tell_0 : decode b_Rec_tell 0 = .ok (.iload_n 1, 1) := by decide +kernel
theorem d_Rec_tell_1 : decode b_Rec_tell 1 = .ok (.tableswitch 96 0 8 #[51, 56, 61, 66, 71, 76, 81, 86, 91], 51) := by decide +kernel
theorem d_Rec_tell_52 : decode b_Rec_tell 52 = .ok (.aload_n 0, 1) := by decide +kernel
theorem d_Rec_tell_53 : decode b_Rec_tell 53 = .ok (.getfield 9, 3) := by decide +kernel
theorem d_Rec_tell_56 : decode b_Rec_tell 56 = .ok (.ireturn, 1) := by decide +kernel
theorem d_Rec_tell_57 : decode b_Rec_tell 57 = .ok (.aload_n 0, 1) := by decide +kernel
theorem d_Rec_tell_58 : decode b_Rec_tell 58 = .ok (.getfield 15, 3) := by decide +kernel
theorem d_Rec_tell_61 : decode b_Rec_tell 61 = .ok (.ireturn, 1) := by decide +kernel
theorem d_Rec_tell_62 : decode b_Rec_tell 62 = .ok (.aload_n 0, 1) := by decide +kernel
theorem d_Rec_tell_63 : decode b_Rec_tell 63 = .ok (.getfield 28, 3) := by decide +kernel
theorem d_Rec_tell_66 : decode b_Rec_tell 66 = .ok (.ireturn, 1) := by decide +kernel
theorem d_Rec_tell_67 : decode b_Rec_tell 67 = .ok (.aload_n 0, 1) := by decide +kernel
theorem d_Rec_tell_68 : decode b_Rec_tell 68 = .ok (.getfield 31, 3) := by decide +kernel
theorem d_Rec_tell_71 : decode b_Rec_tell 71 = .ok (.ireturn, 1) := by decide +kernel
theorem d_Rec_tell_72 : decode b_Rec_tell 72 = .ok (.aload_n 0, 1) := by decide +kernel
theorem d_Rec_tell_73 : decode b_Rec_tell 73 = .ok (.getfield 18, 3) := by decide +kernel
theorem d_Rec_tell_76 : decode b_Rec_tell 76 = .ok (.ireturn, 1) := by decide +kernel
theorem d_Rec_tell_77 : decode b_Rec_tell 77 = .ok (.aload_n 0, 1) := by decide +kernel
theorem d_Rec_tell_78 : decode b_Rec_tell 78 = .ok (.getfield 40, 3) := by decide +kernel
theorem d_Rec_tell_81 : decode b_Rec_tell 81 = .ok (.ireturn, 1) := by decide +kernel
theorem d_Rec_tell_82 : decode b_Rec_tell 82 = .ok (.aload_n 0, 1) := by decide +kernel
theorem d_Rec_tell_83 : decode b_Rec_tell 83 = .ok (.getfield 75, 3) := by decide +kernel
theorem d_Rec_tell_86 : decode b_Rec_tell 86 = .ok (.ireturn, 1) := by decide +kernel
theorem d_Rec_tell_87 : decode b_Rec_tell 87 = .ok (.aload_n 0, 1) := by decide +kernel
theorem d_Rec_tell_88 : decode b_Rec_tell 88 = .ok (.getfield 81, 3) := by decide +kernel
theorem d_Rec_tell_91 : decode b_Rec_tell 91 = .ok (.ireturn, 1) := by decide +kernel
theorem d_Rec_tell_92 : decode b_Rec_tell 92 = .ok (.aload_n 0, 1) := by decide +kernel
theorem d_Rec_tell_93 : decode b_Rec_tell 93 = .ok (.getfield 37, 3) := by decide +kernel
theorem d_Rec_tell_96 : decode b_Rec_tell 96 = .ok (.ireturn, 1) := by decide +kernel
theorem d_Rec_tell_97 : decode b_Rec_tell 97 = .ok (.aload_n 0, 1) := by decide +kernel
theorem d_Rec_tell_98 : decode b_Rec_tell 98 = .ok (.getfield 21, 3) := by decide +kernel
theorem d_Rec_tell_101 : decode b_Rec_tell 101 = .ok (.ifCond .eq 7, 3) := by decide +kernel
theorem d_Rec_tell_104 : decode b_Rec_tell 104 = .ok (.iconst 1, 1) := by decide +kernel
theorem d_Rec_tell_105 : decode b_Rec_tell 105 = .ok (.goto 4, 3) := by decide +kernel
theorem d_Rec_tell_108 : decode b_Rec_tell 108 = .ok (.iconst 0, 1) := by decide +kernel
theorem d_Rec_tell_109 : decode b_Rec_tell 109 = .ok (.aload_n 0, 1) := by decide +kernel
theorem d_Rec_tell_110 : decode b_Rec_tell 110 = .ok (.getfield 34, 3) := by decide +kernel
theorem d_Rec_tell_113 : decode b_Rec_tell 113 = .ok (.ifCond .eq 7, 3) := by decide +kernel
theorem d_Rec_tell_116 : decode b_Rec_tell 116 = .ok (.iconst 2, 1) := by decide +kernel
theorem d_Rec_tell_117 : decode b_Rec_tell 117 = .ok (.goto 4, 3) := by decide +kernel
theorem d_Rec_tell_120 : decode b_Rec_tell 120 = .ok (.iconst 0, 1) := by decide +kernel
theorem d_Rec_tell_121 : decode b_Rec_tell 121 = .ok (.iadd, 1) := by decide +kernel
theorem d_Rec_tell_122 : decode b_Rec_tell 122 = .ok (.aload_n 0, 1) := by decide +kernel
theorem d_Rec_tell_123 : decode b_Rec_tell 123 = .ok (.getfield 84, 3) := by decide +kernel
theorem d_Rec_tell_126 : decode b_Rec_tell 126 = .ok (.ifCond .eq 7, 3) := by decide +kernel
theorem d_Rec_tell_129 : decode b_Rec_tell 129 = .ok (.iconst 4, 1) := by decide +kernel
theorem d_Rec_tell_130 : decode b_Rec_tell 130 = .ok (.goto 4, 3) := by decide +kernel
theorem d_Rec_tell_133 : decode b_Rec_tell 133 = .ok (.iconst 0, 1) := by decide +kernel
theorem d_Rec_tell_134 : decode b_Rec_tell 134 = .ok (.iadd, 1) := by decide +kernel
theorem d_Rec_tell_135 : decode b_Rec_tell 135 = .ok (.ireturn, 1) := by decide +kernel
set_option maxRecDepth 100000 in
set_option maxHeartbeats 4000000 in
theorem c_Rec_tell (l : Launch) (K : Kx) (V : Vx) (A B C D : MI) (P : MP) (r : Nat) (hr : V.1 2 r) (w : Nat) (hw : w < 10) : Ct l K md_Rec_tell (0, 0) 0 0 [.ref (K.ad 2 r), .int (nI w)] V (bk4 A B C D) P (EQ V (some (.int (rtell A r w))) (bk4 A B C D) P) := by
  refine ct_of [(0, .ref (K.ad 2 r)), (1, .int (nI w))] (by decide) (Nat.le_of_ble_eq_true rfl) (ca_r (ca_i ca_n)) rfl ?_
  intro X hl hX
  have h : OkX X b_Rec_tell R_Rec K := hX.1
  have hN : X.nL = 2 := hX.2.1
  match w, hw with
  | 0, _ =>
    refine j_iload_n h d_Rec_tell_0 rfl ?_
    refine j_tabIn (off := 51) (tgt := 52) h d_Rec_tell_1 (by decide +kernel) (by decide +kernel) (by decide +kernel) (by decide) ?_
    refine j_aload_n h d_Rec_tell_52 rfl ?_
    refine j_get0 h d_Rec_tell_53 fl_Rec_9 rfl (by assumption) ?_
    exact j_iret hX d_Rec_tell_56 rfl (Nat.le_refl _) (Nat.le_refl _) ⟨rfl, by clear hX h hl; first | rfl | (simp_all [rtell]; done) | grind [rtell], by clear hX h hl; first | rfl | (simp_all [rtell, up_rd]; done) | grind [rtell, up_rd], rfl⟩
  | 1, _ =>
    refine j_iload_n h d_Rec_tell_0 rfl ?_
    refine j_tabIn (off := 56) (tgt := 57) h d_Rec_tell_1 (by decide +kernel) (by decide +kernel) (by decide +kernel) (by decide) ?_
    refine j_aload_n h d_Rec_tell_57 rfl ?_
    refine j_get0 h d_Rec_tell_58 fl_Rec_15 rfl (by assumption) ?_
    exact j_iret hX d_Rec_tell_61 rfl (Nat.le_refl _) (Nat.le_refl _) ⟨rfl, by clear hX h hl; first | rfl | (simp_all [rtell]; done) | grind [rtell], by clear hX h hl; first | rfl | (simp_all [rtell, up_rd]; done) | grind [rtell, up_rd], rfl⟩
  | 2, _ =>
    refine j_iload_n h d_Rec_tell_0 rfl ?_
    refine j_tabIn (off := 61) (tgt := 62) h d_Rec_tell_1 (by decide +kernel) (by decide +kernel) (by decide +kernel) (by decide) ?_
    refine j_aload_n h d_Rec_tell_62 rfl ?_
    refine j_get0 h d_Rec_tell_63 fl_Rec_28 rfl (by assumption) ?_
    exact j_iret hX d_Rec_tell_66 rfl (Nat.le_refl _) (Nat.le_refl _) ⟨rfl, by clear hX h hl; first | rfl | (simp_all [rtell]; done) | grind [rtell], by clear hX h hl; first | rfl | (simp_all [rtell, up_rd]; done) | grind [rtell, up_rd], rfl⟩
  | 3, _ =>
    refine j_iload_n h d_Rec_tell_0 rfl ?_
    refine j_tabIn (off := 66) (tgt := 67) h d_Rec_tell_1 (by decide +kernel) (by decide +kernel) (by decide +kernel) (by decide) ?_
    refine j_aload_n h d_Rec_tell_67 rfl ?_
    refine j_get0 h d_Rec_tell_68 fl_Rec_31 rfl (by assumption) ?_
    exact j_iret hX d_Rec_tell_71 rfl (Nat.le_refl _) (Nat.le_refl _) ⟨rfl, by clear hX h hl; first | rfl | (simp_all [rtell]; done) | grind [rtell], by clear hX h hl; first | rfl | (simp_all [rtell, up_rd]; done) | grind [rtell, up_rd], rfl⟩
  | 4, _ =>
    refine j_iload_n h d_Rec_tell_0 rfl ?_
    refine j_tabIn (off := 71) (tgt := 72) h d_Rec_tell_1 (by decide +kernel) (by decide +kernel) (by decide +kernel) (by decide) ?_
    refine j_aload_n h d_Rec_tell_72 rfl ?_
    refine j_get0 h d_Rec_tell_73 fl_Rec_18 rfl (by assumption) ?_
    exact j_iret hX d_Rec_tell_76 rfl (Nat.le_refl _) (Nat.le_refl _) ⟨rfl, by clear hX h hl; first | rfl | (simp_all [rtell]; done) | grind [rtell], by clear hX h hl; first | rfl | (simp_all [rtell, up_rd]; done) | grind [rtell, up_rd], rfl⟩
  | 5, _ =>
    refine j_iload_n h d_Rec_tell_0 rfl ?_
    refine j_tabIn (off := 76) (tgt := 77) h d_Rec_tell_1 (by decide +kernel) (by decide +kernel) (by decide +kernel) (by decide) ?_
    refine j_aload_n h d_Rec_tell_77 rfl ?_
    refine j_get0 h d_Rec_tell_78 fl_Rec_40 rfl (by assumption) ?_
    exact j_iret hX d_Rec_tell_81 rfl (Nat.le_refl _) (Nat.le_refl _) ⟨rfl, by clear hX h hl; first | rfl | (simp_all [rtell]; done) | grind [rtell], by clear hX h hl; first | rfl | (simp_all [rtell, up_rd]; done) | grind [rtell, up_rd], rfl⟩
  | 6, _ =>
    refine j_iload_n h d_Rec_tell_0 rfl ?_
    refine j_tabIn (off := 81) (tgt := 82) h d_Rec_tell_1 (by decide +kernel) (by decide +kernel) (by decide +kernel) (by decide) ?_
    refine j_aload_n h d_Rec_tell_82 rfl ?_
    refine j_get0 h d_Rec_tell_83 fl_Rec_75 rfl (by assumption) ?_
    exact j_iret hX d_Rec_tell_86 rfl (Nat.le_refl _) (Nat.le_refl _) ⟨rfl, by clear hX h hl; first | rfl | (simp_all [rtell]; done) | grind [rtell], by clear hX h hl; first | rfl | (simp_all [rtell, up_rd]; done) | grind [rtell, up_rd], rfl⟩
  | 7, _ =>
    refine j_iload_n h d_Rec_tell_0 rfl ?_
    refine j_tabIn (off := 86) (tgt := 87) h d_Rec_tell_1 (by decide +kernel) (by decide +kernel) (by decide +kernel) (by decide) ?_
    refine j_aload_n h d_Rec_tell_87 rfl ?_
    refine j_get0 h d_Rec_tell_88 fl_Rec_81 rfl (by assumption) ?_
    exact j_iret hX d_Rec_tell_91 rfl (Nat.le_refl _) (Nat.le_refl _) ⟨rfl, by clear hX h hl; first | rfl | (simp_all [rtell]; done) | grind [rtell], by clear hX h hl; first | rfl | (simp_all [rtell, up_rd]; done) | grind [rtell, up_rd], rfl⟩
  | 8, _ =>
    refine j_iload_n h d_Rec_tell_0 rfl ?_
    refine j_tabIn (off := 91) (tgt := 92) h d_Rec_tell_1 (by decide +kernel) (by decide +kernel) (by decide +kernel) (by decide) ?_
    refine j_aload_n h d_Rec_tell_92 rfl ?_
    refine j_get0 h d_Rec_tell_93 fl_Rec_37 rfl (by assumption) ?_
    exact j_iret hX d_Rec_tell_96 rfl (Nat.le_refl _) (Nat.le_refl _) ⟨rfl, by clear hX h hl; first | rfl | (simp_all [rtell]; done) | grind [rtell], by clear hX h hl; first | rfl | (simp_all [rtell, up_rd]; done) | grind [rtell, up_rd], rfl⟩
  | 9, _ =>
    refine j_iload_n h d_Rec_tell_0 rfl ?_
    refine j_tabOut (tgt := 97) h d_Rec_tell_1 (by decide +kernel) (by decide) ?_
    refine j_aload_n h d_Rec_tell_97 rfl ?_
    refine j_get0 h d_Rec_tell_98 fl_Rec_21 rfl (by assumption) ?_
    refine j_if_eq (tgt := 108) h d_Rec_tell_101 (by decide) (fun c1 => ?_) (fun c1 => ?_)
    · refine j_iconst (v := 0) h d_Rec_tell_108 (by decide) ?_
      refine j_aload_n h d_Rec_tell_109 rfl ?_
      refine j_get0 h d_Rec_tell_110 fl_Rec_34 rfl (by assumption) ?_
      refine j_if_eq (tgt := 120) h d_Rec_tell_113 (by decide) (fun c2 => ?_) (fun c2 => ?_)
      · refine j_iconst (v := 0) h d_Rec_tell_120 (by decide) ?_
        refine j_iadd h d_Rec_tell_121 ?_
        refine j_aload_n h d_Rec_tell_122 rfl ?_
        refine j_get0 h d_Rec_tell_123 fl_Rec_84 rfl (by assumption) ?_
        refine j_if_eq (tgt := 133) h d_Rec_tell_126 (by decide) (fun c3 => ?_) (fun c3 => ?_)
        · refine j_iconst (v := 0) h d_Rec_tell_133 (by decide) ?_
          refine j_iadd h d_Rec_tell_134 ?_
          exact j_iret hX d_Rec_tell_135 rfl (Nat.le_refl _) (Nat.le_refl _) ⟨rfl, by clear hX h hl; first | rfl | (simp_all [rtell]; done) | grind [rtell], by clear hX h hl; first | rfl | (simp_all [rtell, up_rd]; done) | grind [rtell, up_rd], rfl⟩
        · refine j_iconst (v := 4) h d_Rec_tell_129 (by decide) ?_
          refine j_goto (tgt := 134) h d_Rec_tell_130 (by decide) ?_
          refine j_iadd h d_Rec_tell_134 ?_
          exact j_iret hX d_Rec_tell_135 rfl (Nat.le_refl _) (Nat.le_refl _) ⟨rfl, by clear hX h hl; first | rfl | (simp_all [rtell]; done) | grind [rtell], by clear hX h hl; first | rfl | (simp_all [rtell, up_rd]; done) | grind [rtell, up_rd], rfl⟩
      · refine j_iconst (v := 2) h d_Rec_tell_116 (by decide) ?_
        refine j_goto (tgt := 121) h d_Rec_tell_117 (by decide) ?_
        refine j_iadd h d_Rec_tell_121 ?_
        refine j_aload_n h d_Rec_tell_122 rfl ?_
        refine j_get0 h d_Rec_tell_123 fl_Rec_84 rfl (by assumption) ?_
        refine j_if_eq (tgt := 133) h d_Rec_tell_126 (by decide) (fun c4 => ?_) (fun c4 => ?_)
        · refine j_iconst (v := 0) h d_Rec_tell_133 (by decide) ?_
          refine j_iadd h d_Rec_tell_134 ?_
          exact j_iret hX d_Rec_tell_135 rfl (Nat.le_refl _) (Nat.le_refl _) ⟨rfl, by clear hX h hl; first | rfl | (simp_all [rtell]; done) | grind [rtell], by clear hX h hl; first | rfl | (simp_all [rtell, up_rd]; done) | grind [rtell, up_rd], rfl⟩
        · refine j_iconst (v := 4) h d_Rec_tell_129 (by decide) ?_
          refine j_goto (tgt := 134) h d_Rec_tell_130 (by decide) ?_
          refine j_iadd h d_Rec_tell_134 ?_
          exact j_iret hX d_Rec_tell_135 rfl (Nat.le_refl _) (Nat.le_refl _) ⟨rfl, by clear hX h hl; first | rfl | (simp_all [rtell]; done) | grind [rtell], by clear hX h hl; first | rfl | (simp_all [rtell, up_rd]; done) | grind [rtell, up_rd], rfl⟩
    · refine j_iconst (v := 1) h d_Rec_tell_104 (by decide) ?_
      refine j_goto (tgt := 109) h d_Rec_tell_105 (by decide) ?_
      refine j_aload_n h d_Rec_tell_109 rfl ?_
      refine j_get0 h d_Rec_tell_110 fl_Rec_34 rfl (by assumption) ?_
      refine j_if_eq (tgt := 120) h d_Rec_tell_113 (by decide) (fun c5 => ?_) (fun c5 => ?_)
      · refine j_iconst (v := 0) h d_Rec_tell_120 (by decide) ?_
        refine j_iadd h d_Rec_tell_121 ?_
        refine j_aload_n h d_Rec_tell_122 rfl ?_
        refine j_get0 h d_Rec_tell_123 fl_Rec_84 rfl (by assumption) ?_
        refine j_if_eq (tgt := 133) h d_Rec_tell_126 (by decide) (fun c6 => ?_) (fun c6 => ?_)
        · refine j_iconst (v := 0) h d_Rec_tell_133 (by decide) ?_
          refine j_iadd h d_Rec_tell_134 ?_
          exact j_iret hX d_Rec_tell_135 rfl (Nat.le_refl _) (Nat.le_refl _) ⟨rfl, by clear hX h hl; first | rfl | (simp_all [rtell]; done) | grind [rtell], by clear hX h hl; first | rfl | (simp_all [rtell, up_rd]; done) | grind [rtell, up_rd], rfl⟩
        · refine j_iconst (v := 4) h d_Rec_tell_129 (by decide) ?_
          refine j_goto (tgt := 134) h d_Rec_tell_130 (by decide) ?_
          refine j_iadd h d_Rec_tell_134 ?_
          exact j_iret hX d_Rec_tell_135 rfl (Nat.le_refl _) (Nat.le_refl _) ⟨rfl, by clear hX h hl; first | rfl | (simp_all [rtell]; done) | grind [rtell], by clear hX h hl; first | rfl | (simp_all [rtell, up_rd]; done) | grind [rtell, up_rd], rfl⟩
      · refine j_iconst (v := 2) h d_Rec_tell_116 (by decide) ?_
        refine j_goto (tgt := 121) h d_Rec_tell_117 (by decide) ?_
        refine j_iadd h d_Rec_tell_121 ?_
        refine j_aload_n h d_Rec_tell_122 rfl ?_
        refine j_get0 h d_Rec_tell_123 fl_Rec_84 rfl (by assumption) ?_
        refine j_if_eq (tgt := 133) h d_Rec_tell_126 (by decide) (fun c7 => ?_) (fun c7 => ?_)
        · refine j_iconst (v := 0) h d_Rec_tell_133 (by decide) ?_
          refine j_iadd h d_Rec_tell_134 ?_
          exact j_iret hX d_Rec_tell_135 rfl (Nat.le_refl _) (Nat.le_refl _) ⟨rfl, by clear hX h hl; first | rfl | (simp_all [rtell]; done) | grind [rtell], by clear hX h hl; first | rfl | (simp_all [rtell, up_rd]; done) | grind [rtell, up_rd], rfl⟩
        · refine j_iconst (v := 4) h d_Rec_tell_129 (by decide) ?_
          refine j_goto (tgt := 134) h d_Rec_tell_130 (by decide) ?_
          refine j_iadd h d_Rec_tell_134 ?_
          exact j_iret hX d_Rec_tell_135 rfl (Nat.le_refl _) (Nat.le_refl _) ⟨rfl, by clear hX h hl; first | rfl | (simp_all [rtell]; done) | grind [rtell], by clear hX h hl; first | rfl | (simp_all [rtell, up_rd]; done) | grind [rtell, up_rd], rfl⟩
  | k + 10, hk => exact absurd hk (by omega)
theorem d_Cli_takeLease_0 : decode b_Cli_takeLease 0 = .ok (.aload_n 0, 1) := by decide +kernel
theorem d_Cli_takeLease_1 : decode b_Cli_takeLease 1 = .ok (.iload_n 1, 1) := by decide +kernel
theorem d_Cli_takeLease_2 : decode b_Cli_takeLease 2 = .ok (.putfield 9, 3) := by decide +kernel
theorem d_Cli_takeLease_5 : decode b_Cli_takeLease 5 = .ok (.aload_n 0, 1) := by decide +kernel
theorem d_Cli_takeLease_6 : decode b_Cli_takeLease 6 = .ok (.iload_n 2, 1) := by decide +kernel
theorem d_Cli_takeLease_7 : decode b_Cli_takeLease 7 = .ok (.putfield 25, 3) := by decide +kernel
theorem d_Cli_takeLease_10 : decode b_Cli_takeLease 10 = .ok (.return_, 1) := by decide +kernel
set_option maxRecDepth 100000 in
set_option maxHeartbeats 4000000 in
theorem c_Cli_takeLease (l : Launch) (K : Kx) (V : Vx) (A B C D : MI) (P : MP) (c : Nat) (hc : V.1 3 c) (a u : Int32) : Ct l K md_Cli_takeLease (0, 0) 0 0 [.ref (K.ad 3 c), .int a, .int u] V (bk4 A B C D) P (EQ V (none) (bk4 (up (up A 30 c a) 31 c u) B C D) P) := by
  refine ct_of [(0, .ref (K.ad 3 c)), (1, .int a), (2, .int u)] (by decide) (Nat.le_of_ble_eq_true rfl) (ca_r (ca_i (ca_i ca_n))) rfl ?_
  intro X hl hX
  have h : OkX X b_Cli_takeLease R_Cli K := hX.1
  have hN : X.nL = 3 := hX.2.1
  refine j_aload_n h d_Cli_takeLease_0 rfl ?_
  refine j_iload_n h d_Cli_takeLease_1 rfl ?_
  refine j_put0 h d_Cli_takeLease_2 fw_Cli_9 rfl rfl (by assumption) ?_
  refine j_aload_n h d_Cli_takeLease_5 rfl ?_
  refine j_iload_n h d_Cli_takeLease_6 rfl ?_
  refine j_put0 h d_Cli_takeLease_7 fw_Cli_25 rfl rfl (by assumption) ?_
  exact j_vret hX d_Cli_takeLease_10 rfl (Nat.le_refl _) (Nat.le_refl _) ⟨rfl, rfl, rfl, rfl⟩
theorem d_Cli_request_0 : decode b_Cli_request 0 = .ok (.aload_n 0, 1) := by decide +kernel
theorem d_Cli_request_1 : decode b_Cli_request 1 = .ok (.dup, 1) := by decide +kernel
theorem d_Cli_request_2 : decode b_Cli_request 2 = .ok (.getfield 15, 3) := by decide +kernel
theorem d_Cli_request_5 : decode b_Cli_request 5 = .ok (.iconst 1, 1) := by decide +kernel
theorem d_Cli_request_6 : decode b_Cli_request 6 = .ok (.iadd, 1) := by decide +kernel
theorem d_Cli_request_7 : decode b_Cli_request 7 = .ok (.putfield 15, 3) := by decide +kernel
theorem d_Cli_request_10 : decode b_Cli_request 10 = .ok (.aload_n 0, 1) := by decide +kernel
theorem d_Cli_request_11 : decode b_Cli_request 11 = .ok (.iload_n 1, 1) := by decide +kernel
theorem d_Cli_request_12 : decode b_Cli_request 12 = .ok (.putfield 18, 3) := by decide +kernel
theorem d_Cli_request_15 : decode b_Cli_request 15 = .ok (.iload_n 1, 1) := by decide +kernel
theorem d_Cli_request_16 : decode b_Cli_request 16 = .ok (.iconst 2, 1) := by decide +kernel
theorem d_Cli_request_17 : decode b_Cli_request 17 = .ok (.if_icmp .ne 9, 3) := by decide +kernel
theorem d_Cli_request_20 : decode b_Cli_request 20 = .ok (.aload_n 0, 1) := by decide +kernel
theorem d_Cli_request_21 : decode b_Cli_request 21 = .ok (.iconst (-1), 1) := by decide +kernel
theorem d_Cli_request_22 : decode b_Cli_request 22 = .ok (.iconst 0, 1) := by decide +kernel
theorem d_Cli_request_23 : decode b_Cli_request 23 = .ok (.invokevirtual 21, 3) := by decide +kernel
theorem d_Cli_request_26 : decode b_Cli_request 26 = .ok (.return_, 1) := by decide +kernel
set_option maxRecDepth 100000 in
set_option maxHeartbeats 4000000 in
theorem c_Cli_request (l : Launch) (K : Kx) (V : Vx) (A B C D : MI) (P : MP) (c : Nat) (hc : V.1 3 c) (k : Int32) : Ct l K md_Cli_request (1, 22) 0 0 [.ref (K.ad 3 c), .int k] V (bk4 A B C D) P (EQ V (none) (bk4 (clReq A c k) B C D) P) := by
  refine ct_of [(0, .ref (K.ad 3 c)), (1, .int k)] (by decide) (Nat.le_of_ble_eq_true rfl) (ca_r (ca_i ca_n)) rfl ?_
  intro X hl hX
  have h : OkX X b_Cli_request R_Cli K := hX.1
  have hN : X.nL = 2 := hX.2.1
  refine j_aload_n h d_Cli_request_0 rfl ?_
  refine j_dup h d_Cli_request_1 rfl ?_
  refine j_get0 h d_Cli_request_2 fl_Cli_15 rfl (by assumption) ?_
  refine j_iconst (v := 1) h d_Cli_request_5 (by decide) ?_
  refine j_iadd h d_Cli_request_6 ?_
  refine j_put0 h d_Cli_request_7 fw_Cli_15 rfl rfl (by assumption) ?_
  refine j_aload_n h d_Cli_request_10 rfl ?_
  refine j_iload_n h d_Cli_request_11 rfl ?_
  refine j_put0 h d_Cli_request_12 fw_Cli_18 rfl rfl (by assumption) ?_
  refine j_iload_n h d_Cli_request_15 rfl ?_
  refine j_iconst (v := 2) h d_Cli_request_16 (by decide) ?_
  refine j_ic_ne (tgt := 26) h d_Cli_request_17 (by decide) (fun c1 => ?_) (fun c1 => ?_)
  · exact j_vret hX d_Cli_request_26 rfl (Nat.le_refl _) (Nat.le_refl _) ⟨rfl, by clear hX h hl; first | rfl | (simp_all [clReq]; done) | grind [clReq], by clear hX h hl; first | rfl | (simp_all [clReq, up_rd]; done) | grind [clReq, up_rd], rfl⟩
  · refine j_aload_n h d_Cli_request_20 rfl ?_
    refine j_iconst (v := -1) h d_Cli_request_21 (by decide) ?_
    refine j_iconst (v := 0) h d_Cli_request_22 (by decide) ?_
    refine j_callV h (c_Cli_takeLease _ _ _ _ _ _ _ _ _ hc _ _) d_Cli_request_23 ml_Cli_21 mv_Cli_takeLease (by assumption) ⟨rfl, rfl⟩ rfl rfl (Nat.le_of_ble_eq_true rfl) (hR_of hX (by decide) (by decide)) (hf_of hX (by decide) (by decide)) ?_
    rintro _ _ _ _ ⟨rfl, rfl, rfl, rfl⟩
    exact j_vret hX d_Cli_request_26 rfl (Nat.le_refl _) (Nat.le_refl _) ⟨rfl, by clear hX h hl; first | rfl | (simp_all [clReq]; done) | grind [clReq], by clear hX h hl; first | rfl | (simp_all [clReq, up_rd]; done) | grind [clReq, up_rd], rfl⟩
theorem d_Cli_awaits_0 : decode b_Cli_awaits 0 = .ok (.iload_n 1, 1) := by decide +kernel
theorem d_Cli_awaits_1 : decode b_Cli_awaits 1 = .ok (.aload_n 0, 1) := by decide +kernel
theorem d_Cli_awaits_2 : decode b_Cli_awaits 2 = .ok (.getfield 15, 3) := by decide +kernel
theorem d_Cli_awaits_5 : decode b_Cli_awaits 5 = .ok (.if_icmp .ne 15, 3) := by decide +kernel
theorem d_Cli_awaits_8 : decode b_Cli_awaits 8 = .ok (.aload_n 0, 1) := by decide +kernel
theorem d_Cli_awaits_9 : decode b_Cli_awaits 9 = .ok (.getfield 18, 3) := by decide +kernel
theorem d_Cli_awaits_12 : decode b_Cli_awaits 12 = .ok (.iconst 2, 1) := by decide +kernel
theorem d_Cli_awaits_13 : decode b_Cli_awaits 13 = .ok (.if_icmp .eq 7, 3) := by decide +kernel
theorem d_Cli_awaits_16 : decode b_Cli_awaits 16 = .ok (.iconst 1, 1) := by decide +kernel
theorem d_Cli_awaits_17 : decode b_Cli_awaits 17 = .ok (.goto 4, 3) := by decide +kernel
theorem d_Cli_awaits_20 : decode b_Cli_awaits 20 = .ok (.iconst 0, 1) := by decide +kernel
theorem d_Cli_awaits_21 : decode b_Cli_awaits 21 = .ok (.ireturn, 1) := by decide +kernel
set_option maxRecDepth 100000 in
set_option maxHeartbeats 4000000 in
theorem c_Cli_awaits (l : Launch) (K : Kx) (V : Vx) (A B C D : MI) (P : MP) (c : Nat) (hc : V.1 3 c) (k : Int32) : Ct l K md_Cli_awaits (0, 0) 0 0 [.ref (K.ad 3 c), .int k] V (bk4 A B C D) P (EQ V (some (.int (b01 (k = A 32 c ∧ ¬ A 33 c = 2)))) (bk4 A B C D) P) := by
  refine ct_of [(0, .ref (K.ad 3 c)), (1, .int k)] (by decide) (Nat.le_of_ble_eq_true rfl) (ca_r (ca_i ca_n)) rfl ?_
  intro X hl hX
  have h : OkX X b_Cli_awaits R_Cli K := hX.1
  have hN : X.nL = 2 := hX.2.1
  refine j_iload_n h d_Cli_awaits_0 rfl ?_
  refine j_aload_n h d_Cli_awaits_1 rfl ?_
  refine j_get0 h d_Cli_awaits_2 fl_Cli_15 rfl (by assumption) ?_
  refine j_ic_ne (tgt := 20) h d_Cli_awaits_5 (by decide) (fun c1 => ?_) (fun c1 => ?_)
  · refine j_iconst (v := 0) h d_Cli_awaits_20 (by decide) ?_
    exact j_zret hX d_Cli_awaits_21 rfl (by first | exact Or.inl rfl | exact Or.inr rfl | exact b01_z _ | assumption) (Nat.le_refl _) (Nat.le_refl _) ⟨rfl, by clear hX h hl; first | rfl | (simp_all [b01]; done) | grind [b01], by clear hX h hl; first | rfl | (simp_all [b01, up_rd]; done) | grind [b01, up_rd], rfl⟩
  · refine j_aload_n h d_Cli_awaits_8 rfl ?_
    refine j_get0 h d_Cli_awaits_9 fl_Cli_18 rfl (by assumption) ?_
    refine j_iconst (v := 2) h d_Cli_awaits_12 (by decide) ?_
    refine j_ic_eq (tgt := 20) h d_Cli_awaits_13 (by decide) (fun c2 => ?_) (fun c2 => ?_)
    · refine j_iconst (v := 0) h d_Cli_awaits_20 (by decide) ?_
      exact j_zret hX d_Cli_awaits_21 rfl (by first | exact Or.inl rfl | exact Or.inr rfl | exact b01_z _ | assumption) (Nat.le_refl _) (Nat.le_refl _) ⟨rfl, by clear hX h hl; first | rfl | (simp_all [b01]; done) | grind [b01], by clear hX h hl; first | rfl | (simp_all [b01, up_rd]; done) | grind [b01, up_rd], rfl⟩
    · refine j_iconst (v := 1) h d_Cli_awaits_16 (by decide) ?_
      refine j_goto (tgt := 21) h d_Cli_awaits_17 (by decide) ?_
      exact j_zret hX d_Cli_awaits_21 rfl (by first | exact Or.inl rfl | exact Or.inr rfl | exact b01_z _ | assumption) (Nat.le_refl _) (Nat.le_refl _) ⟨rfl, by clear hX h hl; first | rfl | (simp_all [b01]; done) | grind [b01], by clear hX h hl; first | rfl | (simp_all [b01, up_rd]; done) | grind [b01, up_rd], rfl⟩
theorem d_Cli_holds_0 : decode b_Cli_holds 0 = .ok (.aload_n 0, 1) := by decide +kernel
theorem d_Cli_holds_1 : decode b_Cli_holds 1 = .ok (.getfield 9, 3) := by decide +kernel
theorem d_Cli_holds_4 : decode b_Cli_holds 4 = .ok (.iconst (-1), 1) := by decide +kernel
theorem d_Cli_holds_5 : decode b_Cli_holds 5 = .ok (.if_icmp .eq 17, 3) := by decide +kernel
theorem d_Cli_holds_8 : decode b_Cli_holds 8 = .ok (.iload_n 1, 1) := by decide +kernel
theorem d_Cli_holds_9 : decode b_Cli_holds 9 = .ok (.aload_n 0, 1) := by decide +kernel
theorem d_Cli_holds_10 : decode b_Cli_holds 10 = .ok (.getfield 25, 3) := by decide +kernel
theorem d_Cli_holds_13 : decode b_Cli_holds 13 = .ok (.iload_n 2, 1) := by decide +kernel
theorem d_Cli_holds_14 : decode b_Cli_holds 14 = .ok (.isub, 1) := by decide +kernel
theorem d_Cli_holds_15 : decode b_Cli_holds 15 = .ok (.if_icmp .ge 7, 3) := by decide +kernel
theorem d_Cli_holds_18 : decode b_Cli_holds 18 = .ok (.iconst 1, 1) := by decide +kernel
theorem d_Cli_holds_19 : decode b_Cli_holds 19 = .ok (.goto 4, 3) := by decide +kernel
theorem d_Cli_holds_22 : decode b_Cli_holds 22 = .ok (.iconst 0, 1) := by decide +kernel
theorem d_Cli_holds_23 : decode b_Cli_holds 23 = .ok (.ireturn, 1) := by decide +kernel
set_option maxRecDepth 100000 in
set_option maxHeartbeats 4000000 in
theorem c_Cli_holds (l : Launch) (K : Kx) (V : Vx) (A B C D : MI) (P : MP) (c : Nat) (hc : V.1 3 c) (t u : Int32) : Ct l K md_Cli_holds (0, 0) 0 0 [.ref (K.ad 3 c), .int t, .int u] V (bk4 A B C D) P (EQ V (some (.int (b01 (¬ A 30 c = -1 ∧ t < A 31 c - u)))) (bk4 A B C D) P) := by
  refine ct_of [(0, .ref (K.ad 3 c)), (1, .int t), (2, .int u)] (by decide) (Nat.le_of_ble_eq_true rfl) (ca_r (ca_i (ca_i ca_n))) rfl ?_
  intro X hl hX
  have h : OkX X b_Cli_holds R_Cli K := hX.1
  have hN : X.nL = 3 := hX.2.1
  refine j_aload_n h d_Cli_holds_0 rfl ?_
  refine j_get0 h d_Cli_holds_1 fl_Cli_9 rfl (by assumption) ?_
  refine j_iconst (v := -1) h d_Cli_holds_4 (by decide) ?_
  refine j_ic_eq (tgt := 22) h d_Cli_holds_5 (by decide) (fun c1 => ?_) (fun c1 => ?_)
  · refine j_iconst (v := 0) h d_Cli_holds_22 (by decide) ?_
    exact j_zret hX d_Cli_holds_23 rfl (by first | exact Or.inl rfl | exact Or.inr rfl | exact b01_z _ | assumption) (Nat.le_refl _) (Nat.le_refl _) ⟨rfl, by clear hX h hl; first | rfl | (simp_all [b01]; done) | grind [b01], by clear hX h hl; first | rfl | (simp_all [b01, up_rd]; done) | grind [b01, up_rd], rfl⟩
  · refine j_iload_n h d_Cli_holds_8 rfl ?_
    refine j_aload_n h d_Cli_holds_9 rfl ?_
    refine j_get0 h d_Cli_holds_10 fl_Cli_25 rfl (by assumption) ?_
    refine j_iload_n h d_Cli_holds_13 rfl ?_
    refine j_isub h d_Cli_holds_14 ?_
    refine j_ic_ge (tgt := 22) h d_Cli_holds_15 (by decide) (fun c2 => ?_) (fun c2 => ?_)
    · refine j_iconst (v := 0) h d_Cli_holds_22 (by decide) ?_
      exact j_zret hX d_Cli_holds_23 rfl (by first | exact Or.inl rfl | exact Or.inr rfl | exact b01_z _ | assumption) (Nat.le_refl _) (Nat.le_refl _) ⟨rfl, by clear hX h hl; first | rfl | (simp_all [b01]; done) | grind [b01], by clear hX h hl; first | rfl | (simp_all [b01, up_rd]; done) | grind [b01, up_rd], rfl⟩
    · refine j_iconst (v := 1) h d_Cli_holds_18 (by decide) ?_
      refine j_goto (tgt := 23) h d_Cli_holds_19 (by decide) ?_
      exact j_zret hX d_Cli_holds_23 rfl (by first | exact Or.inl rfl | exact Or.inr rfl | exact b01_z _ | assumption) (Nat.le_refl _) (Nat.le_refl _) ⟨rfl, by clear hX h hl; first | rfl | (simp_all [b01]; done) | grind [b01], by clear hX h hl; first | rfl | (simp_all [b01, up_rd]; done) | grind [b01, up_rd], rfl⟩
theorem d_Msg_begin_0 : decode b_Msg_begin 0 = .ok (.aload_n 0, 1) := by decide +kernel
theorem d_Msg_begin_1 : decode b_Msg_begin 1 = .ok (.iload_n 1, 1) := by decide +kernel
theorem d_Msg_begin_2 : decode b_Msg_begin 2 = .ok (.putfield 9, 3) := by decide +kernel
theorem d_Msg_begin_5 : decode b_Msg_begin 5 = .ok (.aload_n 0, 1) := by decide +kernel
theorem d_Msg_begin_6 : decode b_Msg_begin 6 = .ok (.iload_n 2, 1) := by decide +kernel
theorem d_Msg_begin_7 : decode b_Msg_begin 7 = .ok (.putfield 15, 3) := by decide +kernel
theorem d_Msg_begin_10 : decode b_Msg_begin 10 = .ok (.aload_n 0, 1) := by decide +kernel
theorem d_Msg_begin_11 : decode b_Msg_begin 11 = .ok (.iload_n 3, 1) := by decide +kernel
theorem d_Msg_begin_12 : decode b_Msg_begin 12 = .ok (.putfield 18, 3) := by decide +kernel
theorem d_Msg_begin_15 : decode b_Msg_begin 15 = .ok (.aload_n 0, 1) := by decide +kernel
theorem d_Msg_begin_16 : decode b_Msg_begin 16 = .ok (.iconst 0, 1) := by decide +kernel
theorem d_Msg_begin_17 : decode b_Msg_begin 17 = .ok (.putfield 21, 3) := by decide +kernel
theorem d_Msg_begin_20 : decode b_Msg_begin 20 = .ok (.aload_n 0, 1) := by decide +kernel
theorem d_Msg_begin_21 : decode b_Msg_begin 21 = .ok (.iconst (-1), 1) := by decide +kernel
theorem d_Msg_begin_22 : decode b_Msg_begin 22 = .ok (.putfield 24, 3) := by decide +kernel
theorem d_Msg_begin_25 : decode b_Msg_begin 25 = .ok (.aload_n 0, 1) := by decide +kernel
theorem d_Msg_begin_26 : decode b_Msg_begin 26 = .ok (.iconst 0, 1) := by decide +kernel
theorem d_Msg_begin_27 : decode b_Msg_begin 27 = .ok (.putfield 27, 3) := by decide +kernel
theorem d_Msg_begin_30 : decode b_Msg_begin 30 = .ok (.return_, 1) := by decide +kernel
set_option maxRecDepth 100000 in
set_option maxHeartbeats 4000000 in
theorem c_Msg_begin (l : Launch) (K : Kx) (V : Vx) (A B C D : MI) (P : MP) (q : Nat) (hq : V.1 5 q) (t f g : Int32) : Ct l K md_Msg_begin (0, 0) 0 0 [.ref (K.ad 5 q), .int t, .int f, .int g] V (bk4 A B C D) P (EQ V (none) (bk4 A (mBegin B q t f g) C D) P) := by
  refine ct_of [(0, .ref (K.ad 5 q)), (1, .int t), (2, .int f), (3, .int g)] (by decide) (Nat.le_of_ble_eq_true rfl) (ca_r (ca_i (ca_i (ca_i ca_n)))) rfl ?_
  intro X hl hX
  have h : OkX X b_Msg_begin R_Msg K := hX.1
  have hN : X.nL = 4 := hX.2.1
  refine j_aload_n h d_Msg_begin_0 rfl ?_
  refine j_iload_n h d_Msg_begin_1 rfl ?_
  refine j_put1 h d_Msg_begin_2 fw_Msg_9 rfl rfl (by assumption) ?_
  refine j_aload_n h d_Msg_begin_5 rfl ?_
  refine j_iload_n h d_Msg_begin_6 rfl ?_
  refine j_put1 h d_Msg_begin_7 fw_Msg_15 rfl rfl (by assumption) ?_
  refine j_aload_n h d_Msg_begin_10 rfl ?_
  refine j_iload_n h d_Msg_begin_11 rfl ?_
  refine j_put1 h d_Msg_begin_12 fw_Msg_18 rfl rfl (by assumption) ?_
  refine j_aload_n h d_Msg_begin_15 rfl ?_
  refine j_iconst (v := 0) h d_Msg_begin_16 (by decide) ?_
  refine j_put1 h d_Msg_begin_17 fw_Msg_21 rfl rfl (by assumption) ?_
  refine j_aload_n h d_Msg_begin_20 rfl ?_
  refine j_iconst (v := -1) h d_Msg_begin_21 (by decide) ?_
  refine j_put1 h d_Msg_begin_22 fw_Msg_24 rfl rfl (by assumption) ?_
  refine j_aload_n h d_Msg_begin_25 rfl ?_
  refine j_iconst (v := 0) h d_Msg_begin_26 (by decide) ?_
  refine j_put1 h d_Msg_begin_27 fw_Msg_27 rfl rfl (by assumption) ?_
  exact j_vret hX d_Msg_begin_30 rfl (Nat.le_refl _) (Nat.le_refl _) ⟨rfl, rfl, rfl, rfl⟩
/-- all fields of q2 into q, one behind the other -/
def mCopy (B : MI) (q q2 : Nat) : MI := (up (up (up (up (up (up (up (up (up (up (up (up (up (up (up B 80 q (B 80 q2)) 82 q (B 82 q2)) 81 q (B 81 q2)) 83 q (B 83 q2)) 84 q (B 84 q2)) 85 q (B 85 q2)) 86 q (B 86 q2)) 87 q (B 87 q2)) 88 q (B 88 q2)) 89 q (B 89 q2)) 90 q (B 90 q2)) 91 q (B 91 q2)) 92 q (B 92 q2)) 93 q (B 93 q2)) 94 q (B 94 q2))
theorem d_Msg_copy_0 : decode b_Msg_copy 0 = .ok (.aload_n 0, 1) := by decide +kernel
theorem d_Msg_copy_1 : decode b_Msg_copy 1 = .ok (.aload_n 1, 1) := by decide +kernel
theorem d_Msg_copy_2 : decode b_Msg_copy 2 = .ok (.getfield 9, 3) := by decide +kernel
theorem d_Msg_copy_5 : decode b_Msg_copy 5 = .ok (.putfield 9, 3) := by decide +kernel
theorem d_Msg_copy_8 : decode b_Msg_copy 8 = .ok (.aload_n 0, 1) := by decide +kernel
theorem d_Msg_copy_9 : decode b_Msg_copy 9 = .ok (.aload_n 1, 1) := by decide +kernel
theorem d_Msg_copy_10 : decode b_Msg_copy 10 = .ok (.getfield 15, 3) := by decide +kernel
theorem d_Msg_copy_13 : decode b_Msg_copy 13 = .ok (.putfield 15, 3) := by decide +kernel
theorem d_Msg_copy_16 : decode b_Msg_copy 16 = .ok (.aload_n 0, 1) := by decide +kernel
theorem d_Msg_copy_17 : decode b_Msg_copy 17 = .ok (.aload_n 1, 1) := by decide +kernel
theorem d_Msg_copy_18 : decode b_Msg_copy 18 = .ok (.getfield 18, 3) := by decide +kernel
theorem d_Msg_copy_21 : decode b_Msg_copy 21 = .ok (.putfield 18, 3) := by decide +kernel
theorem d_Msg_copy_24 : decode b_Msg_copy 24 = .ok (.aload_n 0, 1) := by decide +kernel
theorem d_Msg_copy_25 : decode b_Msg_copy 25 = .ok (.aload_n 1, 1) := by decide +kernel
theorem d_Msg_copy_26 : decode b_Msg_copy 26 = .ok (.getfield 21, 3) := by decide +kernel
theorem d_Msg_copy_29 : decode b_Msg_copy 29 = .ok (.putfield 21, 3) := by decide +kernel
theorem d_Msg_copy_32 : decode b_Msg_copy 32 = .ok (.aload_n 0, 1) := by decide +kernel
theorem d_Msg_copy_33 : decode b_Msg_copy 33 = .ok (.aload_n 1, 1) := by decide +kernel
theorem d_Msg_copy_34 : decode b_Msg_copy 34 = .ok (.getfield 24, 3) := by decide +kernel
theorem d_Msg_copy_37 : decode b_Msg_copy 37 = .ok (.putfield 24, 3) := by decide +kernel
theorem d_Msg_copy_40 : decode b_Msg_copy 40 = .ok (.aload_n 0, 1) := by decide +kernel
theorem d_Msg_copy_41 : decode b_Msg_copy 41 = .ok (.aload_n 1, 1) := by decide +kernel
theorem d_Msg_copy_42 : decode b_Msg_copy 42 = .ok (.getfield 30, 3) := by decide +kernel
theorem d_Msg_copy_45 : decode b_Msg_copy 45 = .ok (.putfield 30, 3) := by decide +kernel
theorem d_Msg_copy_48 : decode b_Msg_copy 48 = .ok (.aload_n 0, 1) := by decide +kernel
theorem d_Msg_copy_49 : decode b_Msg_copy 49 = .ok (.aload_n 1, 1) := by decide +kernel
theorem d_Msg_copy_50 : decode b_Msg_copy 50 = .ok (.getfield 27, 3) := by decide +kernel
theorem d_Msg_copy_53 : decode b_Msg_copy 53 = .ok (.putfield 27, 3) := by decide +kernel
theorem d_Msg_copy_56 : decode b_Msg_copy 56 = .ok (.aload_n 0, 1) := by decide +kernel
theorem d_Msg_copy_57 : decode b_Msg_copy 57 = .ok (.aload_n 1, 1) := by decide +kernel
theorem d_Msg_copy_58 : decode b_Msg_copy 58 = .ok (.getfield 33, 3) := by decide +kernel
theorem d_Msg_copy_61 : decode b_Msg_copy 61 = .ok (.putfield 33, 3) := by decide +kernel
theorem d_Msg_copy_64 : decode b_Msg_copy 64 = .ok (.aload_n 0, 1) := by decide +kernel
theorem d_Msg_copy_65 : decode b_Msg_copy 65 = .ok (.aload_n 1, 1) := by decide +kernel
theorem d_Msg_copy_66 : decode b_Msg_copy 66 = .ok (.getfield 36, 3) := by decide +kernel
theorem d_Msg_copy_69 : decode b_Msg_copy 69 = .ok (.putfield 36, 3) := by decide +kernel
theorem d_Msg_copy_72 : decode b_Msg_copy 72 = .ok (.aload_n 0, 1) := by decide +kernel
theorem d_Msg_copy_73 : decode b_Msg_copy 73 = .ok (.aload_n 1, 1) := by decide +kernel
theorem d_Msg_copy_74 : decode b_Msg_copy 74 = .ok (.getfield 39, 3) := by decide +kernel
theorem d_Msg_copy_77 : decode b_Msg_copy 77 = .ok (.putfield 39, 3) := by decide +kernel
theorem d_Msg_copy_80 : decode b_Msg_copy 80 = .ok (.aload_n 0, 1) := by decide +kernel
theorem d_Msg_copy_81 : decode b_Msg_copy 81 = .ok (.aload_n 1, 1) := by decide +kernel
theorem d_Msg_copy_82 : decode b_Msg_copy 82 = .ok (.getfield 42, 3) := by decide +kernel
theorem d_Msg_copy_85 : decode b_Msg_copy 85 = .ok (.putfield 42, 3) := by decide +kernel
theorem d_Msg_copy_88 : decode b_Msg_copy 88 = .ok (.aload_n 0, 1) := by decide +kernel
theorem d_Msg_copy_89 : decode b_Msg_copy 89 = .ok (.aload_n 1, 1) := by decide +kernel
theorem d_Msg_copy_90 : decode b_Msg_copy 90 = .ok (.getfield 45, 3) := by decide +kernel
theorem d_Msg_copy_93 : decode b_Msg_copy 93 = .ok (.putfield 45, 3) := by decide +kernel
theorem d_Msg_copy_96 : decode b_Msg_copy 96 = .ok (.aload_n 0, 1) := by decide +kernel
theorem d_Msg_copy_97 : decode b_Msg_copy 97 = .ok (.aload_n 1, 1) := by decide +kernel
theorem d_Msg_copy_98 : decode b_Msg_copy 98 = .ok (.getfield 49, 3) := by decide +kernel
theorem d_Msg_copy_101 : decode b_Msg_copy 101 = .ok (.putfield 49, 3) := by decide +kernel
theorem d_Msg_copy_104 : decode b_Msg_copy 104 = .ok (.aload_n 0, 1) := by decide +kernel
theorem d_Msg_copy_105 : decode b_Msg_copy 105 = .ok (.aload_n 1, 1) := by decide +kernel
theorem d_Msg_copy_106 : decode b_Msg_copy 106 = .ok (.getfield 52, 3) := by decide +kernel
theorem d_Msg_copy_109 : decode b_Msg_copy 109 = .ok (.putfield 52, 3) := by decide +kernel
theorem d_Msg_copy_112 : decode b_Msg_copy 112 = .ok (.aload_n 0, 1) := by decide +kernel
theorem d_Msg_copy_113 : decode b_Msg_copy 113 = .ok (.aload_n 1, 1) := by decide +kernel
theorem d_Msg_copy_114 : decode b_Msg_copy 114 = .ok (.getfield 55, 3) := by decide +kernel
theorem d_Msg_copy_117 : decode b_Msg_copy 117 = .ok (.putfield 55, 3) := by decide +kernel
theorem d_Msg_copy_120 : decode b_Msg_copy 120 = .ok (.return_, 1) := by decide +kernel
set_option maxRecDepth 100000 in
set_option maxHeartbeats 4000000 in
theorem c_Msg_copy (l : Launch) (K : Kx) (V : Vx) (A B C D : MI) (P : MP) (q : Nat) (hq : V.1 5 q) (q2 : Nat) (hq2 : V.1 5 q2) (hb : B 91 q2 = 0 ∨ B 91 q2 = 1) : Ct l K md_Msg_copy (0, 0) 0 0 [.ref (K.ad 5 q), .ref (K.ad 5 q2)] V (bk4 A B C D) P (EQ V (none) (bk4 A (mCopy B q q2) C D) P) := by
  refine ct_of [(0, .ref (K.ad 5 q)), (1, .ref (K.ad 5 q2))] (by decide) (Nat.le_of_ble_eq_true rfl) (ca_r (ca_r ca_n)) rfl ?_
  intro X hl hX
  have h : OkX X b_Msg_copy R_Msg K := hX.1
  have hN : X.nL = 2 := hX.2.1
  refine j_aload_n h d_Msg_copy_0 rfl ?_
  refine j_aload_n h d_Msg_copy_1 rfl ?_
  refine j_get1e (v := B 80 q2) h d_Msg_copy_2 fl_Msg_9 rfl (by assumption) (by simp [up_rd]) ?_
  refine j_put1 h d_Msg_copy_5 fw_Msg_9 rfl rfl (by assumption) ?_
  refine j_aload_n h d_Msg_copy_8 rfl ?_
  refine j_aload_n h d_Msg_copy_9 rfl ?_
  refine j_get1e (v := B 82 q2) h d_Msg_copy_10 fl_Msg_15 rfl (by assumption) (by simp [up_rd]) ?_
  refine j_put1 h d_Msg_copy_13 fw_Msg_15 rfl rfl (by assumption) ?_
  refine j_aload_n h d_Msg_copy_16 rfl ?_
  refine j_aload_n h d_Msg_copy_17 rfl ?_
  refine j_get1e (v := B 81 q2) h d_Msg_copy_18 fl_Msg_18 rfl (by assumption) (by simp [up_rd]) ?_
  refine j_put1 h d_Msg_copy_21 fw_Msg_18 rfl rfl (by assumption) ?_
  refine j_aload_n h d_Msg_copy_24 rfl ?_
  refine j_aload_n h d_Msg_copy_25 rfl ?_
  refine j_get1e (v := B 83 q2) h d_Msg_copy_26 fl_Msg_21 rfl (by assumption) (by simp [up_rd]) ?_
  refine j_put1 h d_Msg_copy_29 fw_Msg_21 rfl rfl (by assumption) ?_
  refine j_aload_n h d_Msg_copy_32 rfl ?_
  refine j_aload_n h d_Msg_copy_33 rfl ?_
  refine j_get1e (v := B 84 q2) h d_Msg_copy_34 fl_Msg_24 rfl (by assumption) (by simp [up_rd]) ?_
  refine j_put1 h d_Msg_copy_37 fw_Msg_24 rfl rfl (by assumption) ?_
  refine j_aload_n h d_Msg_copy_40 rfl ?_
  refine j_aload_n h d_Msg_copy_41 rfl ?_
  refine j_get1e (v := B 85 q2) h d_Msg_copy_42 fl_Msg_30 rfl (by assumption) (by simp [up_rd]) ?_
  refine j_put1 h d_Msg_copy_45 fw_Msg_30 rfl rfl (by assumption) ?_
  refine j_aload_n h d_Msg_copy_48 rfl ?_
  refine j_aload_n h d_Msg_copy_49 rfl ?_
  refine j_get1e (v := B 86 q2) h d_Msg_copy_50 fl_Msg_27 rfl (by assumption) (by simp [up_rd]) ?_
  refine j_put1 h d_Msg_copy_53 fw_Msg_27 rfl rfl (by assumption) ?_
  refine j_aload_n h d_Msg_copy_56 rfl ?_
  refine j_aload_n h d_Msg_copy_57 rfl ?_
  refine j_get1e (v := B 87 q2) h d_Msg_copy_58 fl_Msg_33 rfl (by assumption) (by simp [up_rd]) ?_
  refine j_put1 h d_Msg_copy_61 fw_Msg_33 rfl rfl (by assumption) ?_
  refine j_aload_n h d_Msg_copy_64 rfl ?_
  refine j_aload_n h d_Msg_copy_65 rfl ?_
  refine j_get1e (v := B 88 q2) h d_Msg_copy_66 fl_Msg_36 rfl (by assumption) (by simp [up_rd]) ?_
  refine j_put1 h d_Msg_copy_69 fw_Msg_36 rfl rfl (by assumption) ?_
  refine j_aload_n h d_Msg_copy_72 rfl ?_
  refine j_aload_n h d_Msg_copy_73 rfl ?_
  refine j_get1e (v := B 89 q2) h d_Msg_copy_74 fl_Msg_39 rfl (by assumption) (by simp [up_rd]) ?_
  refine j_put1 h d_Msg_copy_77 fw_Msg_39 rfl rfl (by assumption) ?_
  refine j_aload_n h d_Msg_copy_80 rfl ?_
  refine j_aload_n h d_Msg_copy_81 rfl ?_
  refine j_get1e (v := B 90 q2) h d_Msg_copy_82 fl_Msg_42 rfl (by assumption) (by simp [up_rd]) ?_
  refine j_put1 h d_Msg_copy_85 fw_Msg_42 rfl rfl (by assumption) ?_
  refine j_aload_n h d_Msg_copy_88 rfl ?_
  refine j_aload_n h d_Msg_copy_89 rfl ?_
  refine j_get1e (v := B 91 q2) h d_Msg_copy_90 fl_Msg_45 rfl (by assumption) (by simp [up_rd]) ?_
  refine j_putZ1 h d_Msg_copy_93 fw_Msg_45 rfl rfl (by assumption) (by first | exact Or.inl rfl | exact Or.inr rfl | assumption) ?_
  refine j_aload_n h d_Msg_copy_96 rfl ?_
  refine j_aload_n h d_Msg_copy_97 rfl ?_
  refine j_get1e (v := B 92 q2) h d_Msg_copy_98 fl_Msg_49 rfl (by assumption) (by simp [up_rd]) ?_
  refine j_put1 h d_Msg_copy_101 fw_Msg_49 rfl rfl (by assumption) ?_
  refine j_aload_n h d_Msg_copy_104 rfl ?_
  refine j_aload_n h d_Msg_copy_105 rfl ?_
  refine j_get1e (v := B 93 q2) h d_Msg_copy_106 fl_Msg_52 rfl (by assumption) (by simp [up_rd]) ?_
  refine j_put1 h d_Msg_copy_109 fw_Msg_52 rfl rfl (by assumption) ?_
  refine j_aload_n h d_Msg_copy_112 rfl ?_
  refine j_aload_n h d_Msg_copy_113 rfl ?_
  refine j_get1e (v := B 94 q2) h d_Msg_copy_114 fl_Msg_55 rfl (by assumption) (by simp [up_rd]) ?_
  refine j_put1 h d_Msg_copy_117 fw_Msg_55 rfl rfl (by assumption) ?_
  exact j_vret hX d_Msg_copy_120 rfl (Nat.le_refl _) (Nat.le_refl _) ⟨rfl, rfl, rfl, rfl⟩
theorem d_Msg_tell_0 : decode b_Msg_tell 0 = .ok (.iload_n 1, 1) := by decide +kernel
theorem d_Msg_tell_1 : decode b_Msg_tell 1 = .ok (.tableswitch 69 0 5 #[39, 44, 49, 54, 59, 64], 39) := by decide +kernel
theorem d_Msg_tell_40 : decode b_Msg_tell 40 = .ok (.aload_n 0, 1) := by decide +kernel
theorem d_Msg_tell_41 : decode b_Msg_tell 41 = .ok (.getfield 9, 3) := by decide +kernel
theorem d_Msg_tell_44 : decode b_Msg_tell 44 = .ok (.ireturn, 1) := by decide +kernel
theorem d_Msg_tell_45 : decode b_Msg_tell 45 = .ok (.aload_n 0, 1) := by decide +kernel
theorem d_Msg_tell_46 : decode b_Msg_tell 46 = .ok (.getfield 18, 3) := by decide +kernel
theorem d_Msg_tell_49 : decode b_Msg_tell 49 = .ok (.ireturn, 1) := by decide +kernel
theorem d_Msg_tell_50 : decode b_Msg_tell 50 = .ok (.aload_n 0, 1) := by decide +kernel
theorem d_Msg_tell_51 : decode b_Msg_tell 51 = .ok (.getfield 15, 3) := by decide +kernel
theorem d_Msg_tell_54 : decode b_Msg_tell 54 = .ok (.ireturn, 1) := by decide +kernel
theorem d_Msg_tell_55 : decode b_Msg_tell 55 = .ok (.aload_n 0, 1) := by decide +kernel
theorem d_Msg_tell_56 : decode b_Msg_tell 56 = .ok (.getfield 21, 3) := by decide +kernel
theorem d_Msg_tell_59 : decode b_Msg_tell 59 = .ok (.ireturn, 1) := by decide +kernel
theorem d_Msg_tell_60 : decode b_Msg_tell 60 = .ok (.aload_n 0, 1) := by decide +kernel
theorem d_Msg_tell_61 : decode b_Msg_tell 61 = .ok (.getfield 24, 3) := by decide +kernel
theorem d_Msg_tell_64 : decode b_Msg_tell 64 = .ok (.ireturn, 1) := by decide +kernel
theorem d_Msg_tell_65 : decode b_Msg_tell 65 = .ok (.aload_n 0, 1) := by decide +kernel
theorem d_Msg_tell_66 : decode b_Msg_tell 66 = .ok (.getfield 30, 3) := by decide +kernel
theorem d_Msg_tell_69 : decode b_Msg_tell 69 = .ok (.ireturn, 1) := by decide +kernel
theorem d_Msg_tell_70 : decode b_Msg_tell 70 = .ok (.aload_n 0, 1) := by decide +kernel
theorem d_Msg_tell_71 : decode b_Msg_tell 71 = .ok (.getfield 27, 3) := by decide +kernel
theorem d_Msg_tell_74 : decode b_Msg_tell 74 = .ok (.ireturn, 1) := by decide +kernel
set_option maxRecDepth 100000 in
set_option maxHeartbeats 4000000 in
theorem c_Msg_tell (l : Launch) (K : Kx) (V : Vx) (A B C D : MI) (P : MP) (q : Nat) (hq : V.1 5 q) (w : Nat) (hw : w < 7) : Ct l K md_Msg_tell (0, 0) 0 0 [.ref (K.ad 5 q), .int (nI w)] V (bk4 A B C D) P (EQ V (some (.int (B (80 + w) q))) (bk4 A B C D) P) := by
  refine ct_of [(0, .ref (K.ad 5 q)), (1, .int (nI w))] (by decide) (Nat.le_of_ble_eq_true rfl) (ca_r (ca_i ca_n)) rfl ?_
  intro X hl hX
  have h : OkX X b_Msg_tell R_Msg K := hX.1
  have hN : X.nL = 2 := hX.2.1
  match w, hw with
  | 0, _ =>
    refine j_iload_n h d_Msg_tell_0 rfl ?_
    refine j_tabIn (off := 39) (tgt := 40) h d_Msg_tell_1 (by decide +kernel) (by decide +kernel) (by decide +kernel) (by decide) ?_
    refine j_aload_n h d_Msg_tell_40 rfl ?_
    refine j_get1 h d_Msg_tell_41 fl_Msg_9 rfl (by assumption) ?_
    exact j_iret hX d_Msg_tell_44 rfl (Nat.le_refl _) (Nat.le_refl _) ⟨rfl, rfl, rfl, rfl⟩
  | 1, _ =>
    refine j_iload_n h d_Msg_tell_0 rfl ?_
    refine j_tabIn (off := 44) (tgt := 45) h d_Msg_tell_1 (by decide +kernel) (by decide +kernel) (by decide +kernel) (by decide) ?_
    refine j_aload_n h d_Msg_tell_45 rfl ?_
    refine j_get1 h d_Msg_tell_46 fl_Msg_18 rfl (by assumption) ?_
    exact j_iret hX d_Msg_tell_49 rfl (Nat.le_refl _) (Nat.le_refl _) ⟨rfl, rfl, rfl, rfl⟩
  | 2, _ =>
    refine j_iload_n h d_Msg_tell_0 rfl ?_
    refine j_tabIn (off := 49) (tgt := 50) h d_Msg_tell_1 (by decide +kernel) (by decide +kernel) (by decide +kernel) (by decide) ?_
    refine j_aload_n h d_Msg_tell_50 rfl ?_
    refine j_get1 h d_Msg_tell_51 fl_Msg_15 rfl (by assumption) ?_
    exact j_iret hX d_Msg_tell_54 rfl (Nat.le_refl _) (Nat.le_refl _) ⟨rfl, rfl, rfl, rfl⟩
  | 3, _ =>
    refine j_iload_n h d_Msg_tell_0 rfl ?_
    refine j_tabIn (off := 54) (tgt := 55) h d_Msg_tell_1 (by decide +kernel) (by decide +kernel) (by decide +kernel) (by decide) ?_
    refine j_aload_n h d_Msg_tell_55 rfl ?_
    refine j_get1 h d_Msg_tell_56 fl_Msg_21 rfl (by assumption) ?_
    exact j_iret hX d_Msg_tell_59 rfl (Nat.le_refl _) (Nat.le_refl _) ⟨rfl, rfl, rfl, rfl⟩
  | 4, _ =>
    refine j_iload_n h d_Msg_tell_0 rfl ?_
    refine j_tabIn (off := 59) (tgt := 60) h d_Msg_tell_1 (by decide +kernel) (by decide +kernel) (by decide +kernel) (by decide) ?_
    refine j_aload_n h d_Msg_tell_60 rfl ?_
    refine j_get1 h d_Msg_tell_61 fl_Msg_24 rfl (by assumption) ?_
    exact j_iret hX d_Msg_tell_64 rfl (Nat.le_refl _) (Nat.le_refl _) ⟨rfl, rfl, rfl, rfl⟩
  | 5, _ =>
    refine j_iload_n h d_Msg_tell_0 rfl ?_
    refine j_tabIn (off := 64) (tgt := 65) h d_Msg_tell_1 (by decide +kernel) (by decide +kernel) (by decide +kernel) (by decide) ?_
    refine j_aload_n h d_Msg_tell_65 rfl ?_
    refine j_get1 h d_Msg_tell_66 fl_Msg_30 rfl (by assumption) ?_
    exact j_iret hX d_Msg_tell_69 rfl (Nat.le_refl _) (Nat.le_refl _) ⟨rfl, rfl, rfl, rfl⟩
  | 6, _ =>
    refine j_iload_n h d_Msg_tell_0 rfl ?_
    refine j_tabOut (tgt := 70) h d_Msg_tell_1 (by decide +kernel) (by decide) ?_
    refine j_aload_n h d_Msg_tell_70 rfl ?_
    refine j_get1 h d_Msg_tell_71 fl_Msg_27 rfl (by assumption) ?_
    exact j_iret hX d_Msg_tell_74 rfl (Nat.le_refl _) (Nat.le_refl _) ⟨rfl, rfl, rfl, rfl⟩
  | k + 7, hk => exact absurd hk (by omega)
theorem d_Srv_serves_0 : decode b_Srv_serves 0 = .ok (.aload_n 0, 1) := by decide +kernel
theorem d_Srv_serves_1 : decode b_Srv_serves 1 = .ok (.getfield 33, 3) := by decide +kernel
theorem d_Srv_serves_4 : decode b_Srv_serves 4 = .ok (.iconst 2, 1) := by decide +kernel
theorem d_Srv_serves_5 : decode b_Srv_serves 5 = .ok (.if_icmp .eq 11, 3) := by decide +kernel
theorem d_Srv_serves_8 : decode b_Srv_serves 8 = .ok (.aload_n 0, 1) := by decide +kernel
theorem d_Srv_serves_9 : decode b_Srv_serves 9 = .ok (.getfield 33, 3) := by decide +kernel
theorem d_Srv_serves_12 : decode b_Srv_serves 12 = .ok (.iconst 3, 1) := by decide +kernel
theorem d_Srv_serves_13 : decode b_Srv_serves 13 = .ok (.if_icmp .ne 7, 3) := by decide +kernel
theorem d_Srv_serves_16 : decode b_Srv_serves 16 = .ok (.iconst 1, 1) := by decide +kernel
theorem d_Srv_serves_17 : decode b_Srv_serves 17 = .ok (.goto 4, 3) := by decide +kernel
theorem d_Srv_serves_20 : decode b_Srv_serves 20 = .ok (.iconst 0, 1) := by decide +kernel
theorem d_Srv_serves_21 : decode b_Srv_serves 21 = .ok (.ireturn, 1) := by decide +kernel
set_option maxRecDepth 100000 in
set_option maxHeartbeats 4000000 in
theorem c_Srv_serves (l : Launch) (K : Kx) (V : Vx) (A B C D : MI) (P : MP) (s : Nat) (hs : V.1 1 s) : Ct l K md_Srv_serves (0, 0) 0 0 [.ref (K.ad 1 s)] V (bk4 A B C D) P (EQ V (some (.int (b01 (A 0 s = 2 ∨ A 0 s = 3)))) (bk4 A B C D) P) := by
  refine ct_of [(0, .ref (K.ad 1 s))] (by decide) (Nat.le_of_ble_eq_true rfl) (ca_r ca_n) rfl ?_
  intro X hl hX
  have h : OkX X b_Srv_serves R_Srv K := hX.1
  have hN : X.nL = 1 := hX.2.1
  refine j_aload_n h d_Srv_serves_0 rfl ?_
  refine j_get0 h d_Srv_serves_1 fl_Srv_33 rfl (by assumption) ?_
  refine j_iconst (v := 2) h d_Srv_serves_4 (by decide) ?_
  refine j_ic_eq (tgt := 16) h d_Srv_serves_5 (by decide) (fun c1 => ?_) (fun c1 => ?_)
  · refine j_iconst (v := 1) h d_Srv_serves_16 (by decide) ?_
    refine j_goto (tgt := 21) h d_Srv_serves_17 (by decide) ?_
    exact j_zret hX d_Srv_serves_21 rfl (by first | exact Or.inl rfl | exact Or.inr rfl | exact b01_z _ | assumption) (Nat.le_refl _) (Nat.le_refl _) ⟨rfl, by clear hX h hl; first | rfl | (simp_all [b01]; done) | grind [b01], by clear hX h hl; first | rfl | (simp_all [b01, up_rd]; done) | grind [b01, up_rd], rfl⟩
  · refine j_aload_n h d_Srv_serves_8 rfl ?_
    refine j_get0 h d_Srv_serves_9 fl_Srv_33 rfl (by assumption) ?_
    refine j_iconst (v := 3) h d_Srv_serves_12 (by decide) ?_
    refine j_ic_ne (tgt := 20) h d_Srv_serves_13 (by decide) (fun c2 => ?_) (fun c2 => ?_)
    · refine j_iconst (v := 0) h d_Srv_serves_20 (by decide) ?_
      exact j_zret hX d_Srv_serves_21 rfl (by first | exact Or.inl rfl | exact Or.inr rfl | exact b01_z _ | assumption) (Nat.le_refl _) (Nat.le_refl _) ⟨rfl, by clear hX h hl; first | rfl | (simp_all [b01]; done) | grind [b01], by clear hX h hl; first | rfl | (simp_all [b01, up_rd]; done) | grind [b01, up_rd], rfl⟩
    · refine j_iconst (v := 1) h d_Srv_serves_16 (by decide) ?_
      refine j_goto (tgt := 21) h d_Srv_serves_17 (by decide) ?_
      exact j_zret hX d_Srv_serves_21 rfl (by first | exact Or.inl rfl | exact Or.inr rfl | exact b01_z _ | assumption) (Nat.le_refl _) (Nat.le_refl _) ⟨rfl, by clear hX h hl; first | rfl | (simp_all [b01]; done) | grind [b01], by clear hX h hl; first | rfl | (simp_all [b01, up_rd]; done) | grind [b01, up_rd], rfl⟩
theorem d_Srv_hears_0 : decode b_Srv_hears 0 = .ok (.iload_n 1, 1) := by decide +kernel
theorem d_Srv_hears_1 : decode b_Srv_hears 1 = .ok (.ifCond .ne 10, 3) := by decide +kernel
theorem d_Srv_hears_4 : decode b_Srv_hears 4 = .ok (.aload_n 0, 1) := by decide +kernel
theorem d_Srv_hears_5 : decode b_Srv_hears 5 = .ok (.invokevirtual 45, 3) := by decide +kernel
theorem d_Srv_hears_8 : decode b_Srv_hears 8 = .ok (.goto 15, 3) := by decide +kernel
theorem d_Srv_hears_11 : decode b_Srv_hears 11 = .ok (.aload_n 0, 1) := by decide +kernel
theorem d_Srv_hears_12 : decode b_Srv_hears 12 = .ok (.getfield 33, 3) := by decide +kernel
theorem d_Srv_hears_15 : decode b_Srv_hears 15 = .ok (.ifCond .eq 7, 3) := by decide +kernel
theorem d_Srv_hears_18 : decode b_Srv_hears 18 = .ok (.iconst 1, 1) := by decide +kernel
theorem d_Srv_hears_19 : decode b_Srv_hears 19 = .ok (.goto 4, 3) := by decide +kernel
theorem d_Srv_hears_22 : decode b_Srv_hears 22 = .ok (.iconst 0, 1) := by decide +kernel
theorem d_Srv_hears_23 : decode b_Srv_hears 23 = .ok (.ireturn, 1) := by decide +kernel
set_option maxRecDepth 100000 in
set_option maxHeartbeats 4000000 in
theorem c_Srv_hears (l : Launch) (K : Kx) (V : Vx) (A B C D : MI) (P : MP) (s : Nat) (hs : V.1 1 s) (t : Int32) : Ct l K md_Srv_hears (1, 20) 0 0 [.ref (K.ad 1 s), .int t] V (bk4 A B C D) P (EQ V (some (.int (b01 ((t = 0 ∧ (A 0 s = 2 ∨ A 0 s = 3)) ∨ (¬ t = 0 ∧ ¬ A 0 s = 0))))) (bk4 A B C D) P) := by
  refine ct_of [(0, .ref (K.ad 1 s)), (1, .int t)] (by decide) (Nat.le_of_ble_eq_true rfl) (ca_r (ca_i ca_n)) rfl ?_
  intro X hl hX
  have h : OkX X b_Srv_hears R_Srv K := hX.1
  have hN : X.nL = 2 := hX.2.1
  refine j_iload_n h d_Srv_hears_0 rfl ?_
  refine j_if_ne (tgt := 11) h d_Srv_hears_1 (by decide) (fun c1 => ?_) (fun c1 => ?_)
  · refine j_aload_n h d_Srv_hears_11 rfl ?_
    refine j_get0 h d_Srv_hears_12 fl_Srv_33 rfl (by assumption) ?_
    refine j_if_eq (tgt := 22) h d_Srv_hears_15 (by decide) (fun c2 => ?_) (fun c2 => ?_)
    · refine j_iconst (v := 0) h d_Srv_hears_22 (by decide) ?_
      exact j_zret hX d_Srv_hears_23 rfl (by first | exact Or.inl rfl | exact Or.inr rfl | exact b01_z _ | assumption) (Nat.le_refl _) (Nat.le_refl _) ⟨rfl, by clear hX h hl; first | rfl | (simp_all [b01]; done) | grind [b01], by clear hX h hl; first | rfl | (simp_all [b01, up_rd]; done) | grind [b01, up_rd], rfl⟩
    · refine j_iconst (v := 1) h d_Srv_hears_18 (by decide) ?_
      refine j_goto (tgt := 23) h d_Srv_hears_19 (by decide) ?_
      exact j_zret hX d_Srv_hears_23 rfl (by first | exact Or.inl rfl | exact Or.inr rfl | exact b01_z _ | assumption) (Nat.le_refl _) (Nat.le_refl _) ⟨rfl, by clear hX h hl; first | rfl | (simp_all [b01]; done) | grind [b01], by clear hX h hl; first | rfl | (simp_all [b01, up_rd]; done) | grind [b01, up_rd], rfl⟩
  · refine j_aload_n h d_Srv_hears_4 rfl ?_
    refine j_callV h (c_Srv_serves _ _ _ _ _ _ _ _ _ hs) d_Srv_hears_5 ml_Srv_45 mv_Srv_serves (by assumption) ⟨rfl, rfl⟩ rfl rfl (Nat.le_of_ble_eq_true rfl) (hR_of hX (by decide) (by decide)) (hf_of hX (by decide) (by decide)) ?_
    rintro _ _ _ _ ⟨rfl, rfl, rfl, rfl⟩
    refine j_goto (tgt := 23) h d_Srv_hears_8 (by decide) ?_
    exact j_zret hX d_Srv_hears_23 rfl (by first | exact Or.inl rfl | exact Or.inr rfl | exact b01_z _ | assumption) (Nat.le_refl _) (Nat.le_refl _) ⟨rfl, by clear hX h hl; first | rfl | (simp_all [b01]; done) | grind [b01], by clear hX h hl; first | rfl | (simp_all [b01, up_rd]; done) | grind [b01, up_rd], rfl⟩
theorem d_Srv_die_0 : decode b_Srv_die 0 = .ok (.aload_n 0, 1) := by decide +kernel
theorem d_Srv_die_1 : decode b_Srv_die 1 = .ok (.iconst 0, 1) := by decide +kernel
theorem d_Srv_die_2 : decode b_Srv_die 2 = .ok (.putfield 33, 3) := by decide +kernel
theorem d_Srv_die_5 : decode b_Srv_die 5 = .ok (.aload_n 0, 1) := by decide +kernel
theorem d_Srv_die_6 : decode b_Srv_die 6 = .ok (.iconst 0, 1) := by decide +kernel
theorem d_Srv_die_7 : decode b_Srv_die 7 = .ok (.putfield 49, 3) := by decide +kernel
theorem d_Srv_die_10 : decode b_Srv_die 10 = .ok (.return_, 1) := by decide +kernel
set_option maxRecDepth 100000 in
set_option maxHeartbeats 4000000 in
theorem c_Srv_die (l : Launch) (K : Kx) (V : Vx) (A B C D : MI) (P : MP) (s : Nat) (hs : V.1 1 s) : Ct l K md_Srv_die (0, 0) 0 0 [.ref (K.ad 1 s)] V (bk4 A B C D) P (EQ V (none) (bk4 (up (up A 0 s 0) 6 s 0) B C D) P) := by
  refine ct_of [(0, .ref (K.ad 1 s))] (by decide) (Nat.le_of_ble_eq_true rfl) (ca_r ca_n) rfl ?_
  intro X hl hX
  have h : OkX X b_Srv_die R_Srv K := hX.1
  have hN : X.nL = 1 := hX.2.1
  refine j_aload_n h d_Srv_die_0 rfl ?_
  refine j_iconst (v := 0) h d_Srv_die_1 (by decide) ?_
  refine j_put0 h d_Srv_die_2 fw_Srv_33 rfl rfl (by assumption) ?_
  refine j_aload_n h d_Srv_die_5 rfl ?_
  refine j_iconst (v := 0) h d_Srv_die_6 (by decide) ?_
  refine j_put0 h d_Srv_die_7 fw_Srv_49 rfl rfl (by assumption) ?_
  exact j_vret hX d_Srv_die_10 rfl (Nat.le_refl _) (Nat.le_refl _) ⟨rfl, rfl, rfl, rfl⟩
theorem d_Srv_write_0 : decode b_Srv_write 0 = .ok (.aload_n 0, 1) := by decide +kernel
theorem d_Srv_write_1 : decode b_Srv_write 1 = .ok (.dup, 1) := by decide +kernel
theorem d_Srv_write_2 : decode b_Srv_write 2 = .ok (.getfield 52, 3) := by decide +kernel
theorem d_Srv_write_5 : decode b_Srv_write 5 = .ok (.iconst 1, 1) := by decide +kernel
theorem d_Srv_write_6 : decode b_Srv_write 6 = .ok (.iadd, 1) := by decide +kernel
theorem d_Srv_write_7 : decode b_Srv_write 7 = .ok (.putfield 52, 3) := by decide +kernel
theorem d_Srv_write_10 : decode b_Srv_write 10 = .ok (.aload_n 0, 1) := by decide +kernel
theorem d_Srv_write_11 : decode b_Srv_write 11 = .ok (.getfield 49, 3) := by decide +kernel
theorem d_Srv_write_14 : decode b_Srv_write 14 = .ok (.iconst 1, 1) := by decide +kernel
theorem d_Srv_write_15 : decode b_Srv_write 15 = .ok (.if_icmp .ne 10, 3) := by decide +kernel
theorem d_Srv_write_18 : decode b_Srv_write 18 = .ok (.aload_n 0, 1) := by decide +kernel
theorem d_Srv_write_19 : decode b_Srv_write 19 = .ok (.invokevirtual 55, 3) := by decide +kernel
theorem d_Srv_write_22 : decode b_Srv_write 22 = .ok (.goto 21, 3) := by decide +kernel
theorem d_Srv_write_25 : decode b_Srv_write 25 = .ok (.aload_n 0, 1) := by decide +kernel
theorem d_Srv_write_26 : decode b_Srv_write 26 = .ok (.getfield 49, 3) := by decide +kernel
theorem d_Srv_write_29 : decode b_Srv_write 29 = .ok (.iconst 1, 1) := by decide +kernel
theorem d_Srv_write_30 : decode b_Srv_write 30 = .ok (.if_icmp .le 13, 3) := by decide +kernel
theorem d_Srv_write_33 : decode b_Srv_write 33 = .ok (.aload_n 0, 1) := by decide +kernel
theorem d_Srv_write_34 : decode b_Srv_write 34 = .ok (.dup, 1) := by decide +kernel
theorem d_Srv_write_35 : decode b_Srv_write 35 = .ok (.getfield 49, 3) := by decide +kernel
theorem d_Srv_write_38 : decode b_Srv_write 38 = .ok (.iconst 1, 1) := by decide +kernel
theorem d_Srv_write_39 : decode b_Srv_write 39 = .ok (.isub, 1) := by decide +kernel
theorem d_Srv_write_40 : decode b_Srv_write 40 = .ok (.putfield 49, 3) := by decide +kernel
theorem d_Srv_write_43 : decode b_Srv_write 43 = .ok (.return_, 1) := by decide +kernel
set_option maxRecDepth 100000 in
set_option maxHeartbeats 4000000 in
theorem c_Srv_write (l : Launch) (K : Kx) (V : Vx) (A B C D : MI) (P : MP) (s : Nat) (hs : V.1 1 s) : Ct l K md_Srv_write (1, 20) 0 0 [.ref (K.ad 1 s)] V (bk4 A B C D) P (EQ V (none) (bk4 (wr A s) B C D) P) := by
  refine ct_of [(0, .ref (K.ad 1 s))] (by decide) (Nat.le_of_ble_eq_true rfl) (ca_r ca_n) rfl ?_
  intro X hl hX
  have h : OkX X b_Srv_write R_Srv K := hX.1
  have hN : X.nL = 1 := hX.2.1
  refine j_aload_n h d_Srv_write_0 rfl ?_
  refine j_dup h d_Srv_write_1 rfl ?_
  refine j_get0 h d_Srv_write_2 fl_Srv_52 rfl (by assumption) ?_
  refine j_iconst (v := 1) h d_Srv_write_5 (by decide) ?_
  refine j_iadd h d_Srv_write_6 ?_
  refine j_put0 h d_Srv_write_7 fw_Srv_52 rfl rfl (by assumption) ?_
  refine j_aload_n h d_Srv_write_10 rfl ?_
  refine j_get0 h d_Srv_write_11 fl_Srv_49 rfl (by assumption) ?_
  refine j_iconst (v := 1) h d_Srv_write_14 (by decide) ?_
  refine j_ic_ne (tgt := 25) h d_Srv_write_15 (by decide) (fun c1 => ?_) (fun c1 => ?_)
  · refine j_aload_n h d_Srv_write_25 rfl ?_
    refine j_get0 h d_Srv_write_26 fl_Srv_49 rfl (by assumption) ?_
    refine j_iconst (v := 1) h d_Srv_write_29 (by decide) ?_
    refine j_ic_le (tgt := 43) h d_Srv_write_30 (by decide) (fun c2 => ?_) (fun c2 => ?_)
    · exact j_vret hX d_Srv_write_43 rfl (Nat.le_refl _) (Nat.le_refl _) ⟨rfl, by clear hX h hl; first | rfl | (simp_all [wr]; done) | grind [wr], by clear hX h hl; first | rfl | (simp_all [wr, up_rd]; done) | grind [wr, up_rd], rfl⟩
    · refine j_aload_n h d_Srv_write_33 rfl ?_
      refine j_dup h d_Srv_write_34 rfl ?_
      refine j_get0 h d_Srv_write_35 fl_Srv_49 rfl (by assumption) ?_
      refine j_iconst (v := 1) h d_Srv_write_38 (by decide) ?_
      refine j_isub h d_Srv_write_39 ?_
      refine j_put0 h d_Srv_write_40 fw_Srv_49 rfl rfl (by assumption) ?_
      exact j_vret hX d_Srv_write_43 rfl (Nat.le_refl _) (Nat.le_refl _) ⟨rfl, by clear hX h hl; first | rfl | (simp_all [wr]; done) | grind [wr], by clear hX h hl; first | rfl | (simp_all [wr, up_rd]; done) | grind [wr, up_rd], rfl⟩
  · refine j_aload_n h d_Srv_write_18 rfl ?_
    refine j_callV h (c_Srv_die _ _ _ _ _ _ _ _ _ hs) d_Srv_write_19 ml_Srv_55 mv_Srv_die (by assumption) ⟨rfl, rfl⟩ rfl rfl (Nat.le_of_ble_eq_true rfl) (hR_of hX (by decide) (by decide)) (hf_of hX (by decide) (by decide)) ?_
    rintro _ _ _ _ ⟨rfl, rfl, rfl, rfl⟩
    refine j_goto (tgt := 43) h d_Srv_write_22 (by decide) ?_
    exact j_vret hX d_Srv_write_43 rfl (Nat.le_refl _) (Nat.le_refl _) ⟨rfl, by clear hX h hl; first | rfl | (simp_all [wr]; done) | grind [wr], by clear hX h hl; first | rfl | (simp_all [wr, up_rd]; done) | grind [wr, up_rd], rfl⟩
