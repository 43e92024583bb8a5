/-! all is made whose address lies below z -/
theorem wit_Law : Cond.initialized R_Law ∈ WA := wa_1 (List.mem_of_getElem? (i := 0) (by decide +kernel)) (by decide +kernel)
theorem wit_LP : Cond.initialized R_LP ∈ WA := wa_1 (List.mem_of_getElem? (i := 1) (by decide +kernel)) (by decide +kernel)
theorem wit_Srv : Cond.initialized R_Srv ∈ WA := wa_1 (List.mem_of_getElem? (i := 3) (by decide +kernel)) (by decide +kernel)
theorem wit_Rec : Cond.initialized R_Rec ∈ WA := wa_1 (List.mem_of_getElem? (i := 4) (by decide +kernel)) (by decide +kernel)
theorem wit_Cli : Cond.initialized R_Cli ∈ WA := wa_1 (List.mem_of_getElem? (i := 5) (by decide +kernel)) (by decide +kernel)
theorem wit_Net : Cond.initialized R_Net ∈ WA := wa_1 (List.mem_of_getElem? (i := 6) (by decide +kernel)) (by decide +kernel)
theorem wit_Msg : Cond.initialized R_Msg ∈ WA := wa_1 (List.mem_of_getElem? (i := 7) (by decide +kernel)) (by decide +kernel)
theorem wit_Mod : Cond.initialized R_Mod ∈ WA := wa_1 (List.mem_of_getElem? (i := 8) (by decide +kernel)) (by decide +kernel)
theorem wcl_Law_8 : Cond.classLink R_Law 8 R_LP ∈ WA := wa_1 (List.mem_of_getElem? (i := 13) (by decide +kernel)) (by decide +kernel)
theorem win_LP : Cond.instantiable R_LP 8 ∈ WA := wa_1 (List.mem_of_getElem? (i := 14) (by decide +kernel)) (by decide +kernel)
theorem wcl_LP_20 : Cond.classLink R_LP 20 R_Srv ∈ WA := wa_1 (List.mem_of_getElem? (i := 30) (by decide +kernel)) (by decide +kernel)
theorem wao_Srv : Cond.arrayOver (.object R_Srv) ∈ NWN := by decide +kernel
theorem win_Srv : Cond.instantiable R_Srv 13 ∈ WA := wa_1 (List.mem_of_getElem? (i := 32) (by decide +kernel)) (by decide +kernel)
theorem wcl_Srv_24 : Cond.classLink R_Srv 24 R_Rec ∈ WA := wa_1 (List.mem_of_getElem? (i := 37) (by decide +kernel)) (by decide +kernel)
theorem wao_Rec : Cond.arrayOver (.object R_Rec) ∈ NWN := by decide +kernel
theorem win_Rec : Cond.instantiable R_Rec 13 ∈ WA := wa_1 (List.mem_of_getElem? (i := 39) (by decide +kernel)) (by decide +kernel)
theorem wcl_LP_29 : Cond.classLink R_LP 29 R_Cli ∈ WA := wa_1 (List.mem_of_getElem? (i := 139) (by decide +kernel)) (by decide +kernel)
theorem wao_Cli : Cond.arrayOver (.object R_Cli) ∈ NWN := by decide +kernel
theorem win_Cli : Cond.instantiable R_Cli 4 ∈ WA := wa_1 (List.mem_of_getElem? (i := 141) (by decide +kernel)) (by decide +kernel)
theorem wcl_LP_36 : Cond.classLink R_LP 36 R_Net ∈ WA := wa_1 (List.mem_of_getElem? (i := 162) (by decide +kernel)) (by decide +kernel)
theorem win_Net : Cond.instantiable R_Net 5 ∈ WA := wa_1 (List.mem_of_getElem? (i := 163) (by decide +kernel)) (by decide +kernel)
theorem wcl_Net_9 : Cond.classLink R_Net 9 R_Msg ∈ WA := wa_1 (List.mem_of_getElem? (i := 168) (by decide +kernel)) (by decide +kernel)
theorem wao_Msg : Cond.arrayOver (.object R_Msg) ∈ NWN := by decide +kernel
theorem win_Msg : Cond.instantiable R_Msg 15 ∈ WA := wa_1 (List.mem_of_getElem? (i := 170) (by decide +kernel)) (by decide +kernel)
theorem wcl_LP_43 : Cond.classLink R_LP 43 R_Msg ∈ WA := wa_2 (List.mem_of_getElem? (i := 23) (by decide +kernel)) (by decide +kernel)
theorem wcl_Law_74 : Cond.classLink R_Law 74 R_Mod ∈ WA := wa_4 (List.mem_of_getElem? (i := 45) (by decide +kernel)) (by decide +kernel)
theorem win_Mod : Cond.instantiable R_Mod 36 ∈ WA := wa_4 (List.mem_of_getElem? (i := 46) (by decide +kernel)) (by decide +kernel)
theorem wac_int : Cond.arrayClass .int ∈ WA := wa_4 (List.mem_of_getElem? (i := 160) (by decide +kernel)) (by decide +kernel)
theorem wac_boolean : Cond.arrayClass .boolean ∈ WA := wa_4 (List.mem_of_getElem? (i := 161) (by decide +kernel)) (by decide +kernel)
theorem wac_long : Cond.arrayClass .long ∈ WA := wa_5 (List.mem_of_getElem? (i := 119) (by decide +kernel)) (by decide +kernel)
def Vz (K : Kx) (z : Nat) : Vx := (fun c i => K.pv c i ∧ K.ad c i < z, fun a => K.pa a ∧ K.aad a < z, fun y => y = z)
theorem Vz_O {K : Kx} {z c i : Nat} (ap : K.apart) (hpv : K.pv c i) (hz : K.ad c i = z) : addO K (Vz K z) c i = Vz K (z + 1) := by
  refine vx_eq (fun c' i' => ?_) (fun a => ?_) (fun y => ?_)
  · show ((K.pv c' i' ∧ K.ad c' i' < z) ∨ (c' = c ∧ i' = i)) ↔ (K.pv c' i' ∧ K.ad c' i' < z + 1)
    constructor
    · rintro (⟨h1, h2⟩ | ⟨rfl, rfl⟩)
      · exact ⟨h1, by omega⟩
      · exact ⟨hpv, by omega⟩
    · rintro ⟨h1, h2⟩
      by_cases q : K.ad c' i' = z
      · exact Or.inr (ap.1 c' i' c i h1 hpv (q.trans hz.symm))
      · exact Or.inl ⟨h1, by omega⟩
  · show (K.pa a ∧ K.aad a < z) ↔ (K.pa a ∧ K.aad a < z + 1)
    constructor
    · rintro ⟨h1, h2⟩; exact ⟨h1, by omega⟩
    · rintro ⟨h1, h2⟩
      have := ap.2.2.1 c i a hpv h1
      exact ⟨h1, by omega⟩
  · show y = K.ad c i + 1 ↔ y = z + 1
    rw [hz]
theorem Vz_A {K : Kx} {z a : Nat} (ap : K.apart) (hpa : K.pa a) (hz : K.aad a = z) : addA K (Vz K z) a = Vz K (z + 1) := by
  refine vx_eq (fun c i => ?_) (fun a' => ?_) (fun y => ?_)
  · show (K.pv c i ∧ K.ad c i < z) ↔ (K.pv c i ∧ K.ad c i < z + 1)
    constructor
    · rintro ⟨h1, h2⟩; exact ⟨h1, by omega⟩
    · rintro ⟨h1, h2⟩
      have := ap.2.2.1 c i a h1 hpa
      exact ⟨h1, by omega⟩
  · show ((K.pa a' ∧ K.aad a' < z) ∨ a' = a) ↔ (K.pa a' ∧ K.aad a' < z + 1)
    constructor
    · rintro (⟨h1, h2⟩ | rfl)
      · exact ⟨h1, by omega⟩
      · exact ⟨hpa, by omega⟩
    · rintro ⟨h1, h2⟩
      by_cases q : K.aad a' = z
      · exact Or.inr (ap.2.1 a' a h1 hpa (q.trans hz.symm))
      · exact Or.inl ⟨h1, by omega⟩
  · show y = K.aad a + 1 ↔ y = z + 1
    rw [hz]
def klen (n a : Nat) : Nat := if a = 0 then 2 else if a = 1 then 16 else if a < 4 then n else if a < 6 then 300 else if a = 40 then 1 else mlen a
/-- K is the formula -/
def KF (K : Kx) (n : Nat) : Prop := (2 ≤ n ∧ n ≤ 32) ∧ K.ad = kad K.base n ∧ K.aad = kaad K.base n ∧ K.alen = klen n ∧ K.pv = kpv n ∧ K.pa = kpa
section JZ
variable {X : Jx} {cc : ByteArray} {own : String} {K : Kx} {I : MI3} {P : MP} {cells slots pc z : Nat} {lv : List (Nat × Value)} {st : List Value}
theorem z_new (h : OkX X cc own K) {idx ci i m : Nat} {r : vw_C} (d : decode cc pc = .ok (.new idx, 3)) (hr : classes[ci]? = some r) (hm : r.2.2 = m) (w1 : Cond.classLink own idx r.1 ∈ WA) (w2 : Cond.instantiable r.1 r.2.2 ∈ WA) (w3 : Cond.initialized r.1 ∈ WA) (hz : K.ad ci i = z) (hpv : K.pv ci i) (hfs : ∀ j, j < m → defaultValue (ftyp ci j) = fval I P (cinf ci j) i) (hf : cells + 1 ≤ X.R.cells ∧ slots + m ≤ X.R.slots)
    (kk : J X K (Vz K (z + 1)) I P (cells + 1) (slots + m) (pc + 3) lv (.ref (K.ad ci i) :: st)) : J X K (Vz K z) I P cells slots pc lv st := by
  subst hm
  refine j_new h d hr w1 w2 w3 (fun y hy => (show y = z from hy).trans hz.symm) hpv hfs hf ?_
  rw [Vz_O h.2.2.2.2.2.2.2 hpv hz]
  exact kk
theorem z_anewa (h : OkX X cc own K) {idx a col m : Nat} {n : Int32} {C : String} (d : decode cc pc = .ok (.anewarray idx, 3)) (w1 : Cond.classLink own idx C ∈ WA) (w2 : Cond.arrayOver (.object C) ∈ NWN) (hty : atyT (aty a) = .object C) (ht7 : aty a < 7) (hl : K.alen a = m) (hm : m < 10000) (hn : n = nI m) (hz : K.aad a = z) (hpa : K.pa a) (hi : ainf a = (2, 9, col)) (hc : ∀ j, P col j = none) (hf : cells + 1 ≤ X.R.cells ∧ slots + m ≤ X.R.slots)
    (kk : J X K (Vz K (z + 1)) I P (cells + 1) (slots + m) (pc + 3) lv (.ref (K.aad a) :: st)) : J X K (Vz K z) I P cells slots pc lv (.int n :: st) := by
  subst hl hn
  refine j_anewa h d w1 w2 hty ht7 (nI_pos (by omega)) (nI_clamp (by omega)) (by omega) (fun y hy => (show y = z from hy).trans hz.symm) hpa ?_ hf ?_
  · rw [hi]
    show arrV _ _ (fun j => va_rf (P col j)) = _
    have : P col = fun _ => none := funext hc
    rw [this]
    rfl
  · rw [Vz_A h.2.2.2.2.2.2.2 hpa hz]
    exact kk
theorem z_newi (h : OkX X cc own K) {a b col m : Nat} {n : Int32} (d : decode cc pc = .ok (.newarray .int, 2)) (hty : atyT (aty a) = .int) (ht7 : aty a < 7) (hl : K.alen a = m) (hm : m < 10000) (hn : n = nI m) (hz : K.aad a = z) (hpa : K.pa a) (hi : ainf a = (0, b, col)) (hc : ∀ j, I b col j = 0) (hf : cells + 1 ≤ X.R.cells ∧ slots + m ≤ X.R.slots)
    (kk : J X K (Vz K (z + 1)) I P (cells + 1) (slots + m) (pc + 2) lv (.ref (K.aad a) :: st)) : J X K (Vz K z) I P cells slots pc lv (.int n :: st) := by
  subst hl hn
  refine j_newa h d wac_int hty.symm ht7 (nI_pos (by omega)) (nI_clamp (by omega)) (by show _ * 4 ≤ _; omega) (fun y hy => (show y = z from hy).trans hz.symm) hpa ?_ hf ?_
  · rw [hi]
    show arrV _ _ (fun j => .int (I b col j)) = _
    have : I b col = fun _ => 0 := funext hc
    rw [this]
    rfl
  · rw [Vz_A h.2.2.2.2.2.2.2 hpa hz]
    exact kk
theorem z_newz (h : OkX X cc own K) {a b col m : Nat} {n : Int32} (d : decode cc pc = .ok (.newarray .boolean, 2)) (hty : atyT (aty a) = .boolean) (ht7 : aty a < 7) (hl : K.alen a = m) (hm : m < 10000) (hn : n = nI m) (hz : K.aad a = z) (hpa : K.pa a) (hi : ainf a = (0, b, col)) (hc : ∀ j, I b col j = 0) (hf : cells + 1 ≤ X.R.cells ∧ slots + m ≤ X.R.slots)
    (kk : J X K (Vz K (z + 1)) I P (cells + 1) (slots + m) (pc + 2) lv (.ref (K.aad a) :: st)) : J X K (Vz K z) I P cells slots pc lv (.int n :: st) := by
  subst hl hn
  refine j_newa h d wac_boolean hty.symm ht7 (nI_pos (by omega)) (nI_clamp (by omega)) (by show _ * 1 ≤ _; omega) (fun y hy => (show y = z from hy).trans hz.symm) hpa ?_ hf ?_
  · rw [hi]
    show arrV _ _ (fun j => .int (I b col j)) = _
    have : I b col = fun _ => 0 := funext hc
    rw [this]
    rfl
  · rw [Vz_A h.2.2.2.2.2.2.2 hpa hz]
    exact kk
theorem z_newl (h : OkX X cc own K) {a col m : Nat} {n : Int32} (d : decode cc pc = .ok (.newarray .long, 2)) (hty : atyT (aty a) = .long) (ht7 : aty a < 7) (hl : K.alen a = m) (hm : m < 10000) (hn : n = nI m) (hz : K.aad a = z) (hpa : K.pa a) (hi : ainf a = (1, 9, col)) (hc : ∀ j, P col j = none) (hf : cells + 1 ≤ X.R.cells ∧ slots + m ≤ X.R.slots)
    (kk : J X K (Vz K (z + 1)) I P (cells + 1) (slots + m) (pc + 2) lv (.ref (K.aad a) :: st)) : J X K (Vz K z) I P cells slots pc lv (.int n :: st) := by
  subst hl hn
  refine j_newa h d wac_long hty.symm ht7 (nI_pos (by omega)) (nI_clamp (by omega)) (by show _ * 8 ≤ _; omega) (fun y hy => (show y = z from hy).trans hz.symm) hpa ?_ hf ?_
  · rw [hi]
    show arrV _ _ (fun j => .long (Int64.ofNat ((P col j).getD 0))) = _
    have : P col = fun _ => none := funext hc
    rw [this]
    rfl
  · rw [Vz_A h.2.2.2.2.2.2.2 hpa hz]
    exact kk
end JZ
