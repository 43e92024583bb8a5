/-! what stands before and after each turn -/
def Inv (n : Nat) (ld sk : Int32) (A : MI) (N : List Msg) : Prop := MF A n ld sk ∧ (Zc A ∧ K10 A ∧ L30 A) ∧ (NV n N ∧ NK N) ∧ wn (A 40 0) 0 1000000000
section INV
variable {n : Nat} {ld sk : Int32} {A A' : MI} {N N' : List Msg}
theorem Inv_go (h : Inv n ld sk A N) (z : ZK A A') (k : K1 A A') (l : L30 A') (nv : NV n N') (nk : NK N') : Inv n ld sk A' N' :=
  ⟨MF_zk h.1 z, ⟨z.1 h.2.1.1, k h.2.1.2.1, l⟩, ⟨nv, nk⟩, by rw [z.2 40 0 (by decide) (by decide)]; exact h.2.2.2⟩
theorem Inv_r (h : Inv n ld sk A N) (z : ZK A A') (k : K1 A A') (r : R3 A A') (nv : NV n N') (nk : NK N') : Inv n ld sk A' N' := Inv_go h z k (L30_r3 h.2.1.2.2 r) nv nk
theorem Inv_up (h : Inv n ld sk A N) {col i : Nat} {v : Int32} (hc : col < 10) : Inv n ld sk (up A col i v) N :=
  Inv_r h (ZK_up (ZK.refl A) (by omega) (Or.inl (by omega))) (K1_up (K1.refl A) (Or.inl (by omega))) (R3_up (R3.refl A) (by omega)) h.2.2.1.1 h.2.2.1.2
theorem Inv_wr (h : Inv n ld sk A N) {s : Nat} : Inv n ld sk (wr A s) N := Inv_r h (ZK_wr (ZK.refl A)) (K1_wr (K1.refl A)) (R3_wr (R3.refl A)) h.2.2.1.1 h.2.2.1.2
theorem Inv_N (h : Inv n ld sk A N) (nv : NV n N') (nk : NK N') : Inv n ld sk A N' := ⟨h.1, h.2.1, ⟨nv, nk⟩, h.2.2.2⟩
theorem Inv_seconds (h : Inv n ld sk A N) {z : Int32} (hz : wn z 0 100000) (h2 : A 40 0 + z ≤ 1000000000) : Inv n ld sk (up A 40 0 (A 40 0 + z)) N := by
  obtain ⟨⟨m1, m2, m3, m4⟩, ⟨i1, i2, i3⟩, i4, i5⟩ := h
  refine ⟨⟨m1, (up_c _ _ (by decide)).trans m2, (up_c _ _ (by decide)).trans m3, (up_c _ _ (by decide)).trans m4⟩, ⟨fun i => ?_, fun i => ?_, fun c hc => ?_⟩, i4, ?_⟩
  · rw [up_c _ _ (by decide), up_c _ _ (by decide), up_c _ _ (by decide), up_c _ _ (by decide)]; exact i1 i
  · rw [up_c _ _ (by decide)]; exact i2 i
  · rw [up_c _ _ (by decide), up_c _ _ (by decide)]; exact i3 c hc
  · rw [up_s]
    obtain ⟨a, ha, e⟩ := wn_nat (b := 1000000000) (by decide) i5
    obtain ⟨b, hb, rfl⟩ := wn_nat (b := 100000) (by decide) hz
    refine ⟨fun q => ?_, fun q => absurd h2 (fun q2 => ?_)⟩
    · rw [e, nI_add] at q
      exact nI_n0 (by omega) q
    · rw [Int32.le_iff_toInt_le] at q2
      rw [Int32.lt_iff_toInt_lt] at q
      omega
theorem Inv_kill (h : Inv n ld sk A N) {s : Nat} : Inv n ld sk (up (up A 0 s 0) 6 s 0) N := Inv_up (Inv_up h (by decide)) (by decide)
theorem Inv_start (h : Inv n ld sk A N) {s : Nat} (hs : s < 2) : Inv n ld sk (if A 0 s = 0 then (wr (up (clrR s n 0 (up (up A 2 s (A 2 s + 1)) 0 s 1)) 6 s 0) s) else A) (if A 0 s = 0 then netput (m_hello (wr (up (clrR s n 0 (up (up A 2 s (A 2 s + 1)) 0 s 1)) 6 s 0) s) s) N else N) := by
  split
  · refine Inv_N (N := N) (Inv_wr (Inv_up ?_ (by decide))) (NV_put h.2.2.1.1 (VM_hel hs)) (NK_hel h.2.2.1.2)
    have h1 := Inv_up (Inv_up h (col := 2) (i := s) (v := A 2 s + 1) (by decide)) (col := 0) (i := s) (v := 1) (by decide)
    exact Inv_r h1 (ZK_clrR _ _ _ (ZK.refl _)) (K1_clrR _ _ _ (K1.refl _)) (R3_clrR _ _ _ (R3.refl _)) h1.2.2.1.1 h1.2.2.1.2
  · exact h
theorem Inv_partnerDown (h : Inv n ld sk A N) {s : Nat} : Inv n ld sk (if (A 0 s = 2 ∧ A 0 (1 - s) = 0) then wr (solR s n 0 (up (up A 0 s 3) 5 s (clk A s))) s else A) N := by
  split
  · refine Inv_wr ?_
    have h1 := Inv_up (Inv_up h (col := 0) (i := s) (v := 3) (by decide)) (col := 5) (i := s) (v := clk A s) (by decide)
    exact Inv_r h1 (ZK_solR _ _ _ (ZK.refl _)) (K1_solR _ _ _ (K1.refl _)) (R3_solR _ _ _ (R3.refl _)) h1.2.2.1.1 h1.2.2.1.2
  · exact h
theorem L30_req (h : L30 A) {c : Nat} {k : Int32} : L30 (clReq A c k) := by
  intro q hq
  have := h q hq
  unfold clReq
  split
  · by_cases e : q = c
    · simp [up_rd, e]
    · simp only [up_rd]
      simp [e]
      simpa using this
  · simp only [up_rd]
    simpa using this
theorem K1_req {A0 : MI} (h : K1 A0 A) {c : Nat} {k : Int32} : K1 A0 (clReq A c k) := by
  unfold clReq
  split
  · exact K1_up (K1_up (K1_up (K1_up h (Or.inl (by decide))) (Or.inl (by decide))) (Or.inl (by decide))) (Or.inl (by decide))
  · exact K1_up (K1_up h (Or.inl (by decide))) (Or.inl (by decide))
theorem Inv_ask (h : Inv n ld sk A N) {c s a : Nat} {k sec : Int32} (hc : c < 16) (hs : s < 2) (ha : a < n) (hk : wn k 0 2) : Inv n ld sk (clReq A c k) (netput (m_req A c s a k sec) N) :=
  Inv_go h (ZK_clReq (ZK.refl A)) (K1_req (K1.refl A)) (L30_req h.2.1.2.2) (NV_put h.2.2.1.1 (VM_req hc hs ha hk)) (NK_req h.2.2.1.2)
theorem Inv_send (h : Inv n ld sk A N) {s : Nat} (hs : s < 2) : Inv n ld sk A (if A 0 s = 0 then N else (spf A s n N).2) := by
  split
  · exact h
  · exact Inv_N h (NV_spf hs h.2.1.1 h.2.2.1.1) (NK_spf h.2.1.2.1 h.2.2.1.2)
theorem Inv_wrIf (h : Inv n ld sk A N) {c : Int32} {s : Nat} : Inv n ld sk (wrIf c A s) N := by
  unfold wrIf
  split
  · exact h
  · exact Inv_wr h
theorem Inv_tidy (h : Inv n ld sk A N) {s : Nat} : Inv n ld sk (if (A 0 s = 2 ∨ A 0 s = 3) then wrIf (endR s ld sk (clk A s) n 0 0 A).1 (endR s ld sk (clk A s) n 0 0 A).2 s else A) N := by
  split
  · exact Inv_wrIf (Inv_r h (ZK_endR _ _ _ _ (ZK.refl _)) (K1_endR _ _ _ _ (K1.refl _)) (R3_endR _ _ _ _ (R3.refl _)) h.2.2.1.1 h.2.2.1.2)
  · exact h
theorem Inv_give (h : Inv n ld sk A N) {s : Nat} {w : Int32} : Inv n ld sk (if A 0 s = 2 then wrIf (hndR s w n 0 0 A).1 (hndR s w n 0 0 A).2 s else A) N := by
  split
  · exact Inv_wrIf (Inv_r h (ZK_hndR _ _ _ _ (ZK.refl _)) (K1_hndR _ _ _ _ (K1.refl _)) (R3_hndR _ _ _ _ (R3.refl _)) h.2.2.1.1 h.2.2.1.2)
  · exact h
theorem Inv_carry (h : Inv n ld sk A N) {k : Nat} {x : Msg} (hx : N[k]? = some x) : Inv n ld sk (dlA A n ld x) (dlN A n ld x N) := by
  have hv := h.2.2.1.1 x (List.mem_of_getElem? hx)
  exact Inv_go h (ZK_dlA (ZK.refl A)) (K1_dlA (K1.refl A)) (L30_dlA h.1.1 hv h.2.1.2.2) (NV_dlN (Nat.lt_of_le_of_lt h.1.1 (by decide)) h.2.1.1 hv h.2.2.1.1) (NK_dlN h.2.1.2.1 h.2.2.1.2)
theorem Inv_carryAll (h : Inv n ld sk A N) : Inv n ld sk (caR n ld N A []).1 (caR n ld N A []).2 := by
  have h1 := caR_stay n ld (Nat.lt_of_le_of_lt h.1.1 (by decide)) N A A [] h.2.2.1.1 (fun _ q => nomatch q) (ZK.refl A) h.2.1.1
  have h2 := caR_stay2 n ld h.1.1 N A [] h.2.2.1.1 (fun _ q => nomatch q) h.2.1.2.1 h.2.1.2.2
  exact Inv_go h h1.2 (fun _ => h2.2.1) h2.2.2 h1.1 h2.1
theorem Inv_drop (h : Inv n ld sk A N) {k : Nat} : Inv n ld sk A (N.eraseIdx k) :=
  Inv_N h (fun x hx => h.2.2.1.1 x (List.mem_of_mem_eraseIdx hx)) (fun x hx => h.2.2.1.2 x (List.mem_of_mem_eraseIdx hx))
end INV
