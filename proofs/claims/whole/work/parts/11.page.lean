/-- the letter at p fits behind the letters ahead of it, e being the place of ";" (or the end) -/
def zFit (c : Nat → Nat) (p e : Nat) : Bool := if e < p then decide (p = e + 1 ∧ 48 ≤ c p ∧ c p ≤ 57) else if p % 3 = 0 then decide (49 ≤ c p ∧ c p ≤ 57) else if p % 3 = 1 then decide (49 ≤ c p ∧ c p ≤ 53) else decide (c p = 59 ∨ (c p = 44 ∧ p < 14))
def zFG (c : Nat → Nat) (n : Nat) : Nat → Nat → Nat → Nat
  | 0, _, _ => n
  | fu + 1, p, e => if zFit c p e = true then zFG c n fu (p + 1) (if c p = 59 then p else e) else p
def zFault (c : Nat → Nat) (n : Nat) : Nat := zFG c n n 0 n
theorem z_m3 (k : Nat) : k % 3 = 0 ∨ k % 3 = 1 ∨ k % 3 = 2 := by omega
/-- a letter that a lesson's place allows -/
def zLes (c : Nat → Nat) (k : Nat) : Prop := if k % 3 = 0 then 49 ≤ c k ∧ c k ≤ 57 else if k % 3 = 1 then 49 ≤ c k ∧ c k ≤ 53 else c k = 59 ∨ (c k = 44 ∧ k < 14)
theorem zFit_lim {c : Nat → Nat} {p e : Nat} (h : e < p) : zFit c p e = true ↔ (p = e + 1 ∧ 48 ≤ c p ∧ c p ≤ 57) := by
  unfold zFit; rw [if_pos h]; exact decide_eq_true_iff
theorem zFit_les {c : Nat → Nat} {p e : Nat} (h : ¬ e < p) : zFit c p e = true ↔ zLes c p := by
  unfold zFit zLes; rw [if_neg h]
  split
  · exact decide_eq_true_iff
  · split <;> exact decide_eq_true_iff
theorem zFG_next {c : Nat → Nat} {n i e e' : Nat} (hi : i < n) (hf : zFit c i e = true) (he : e' = if c i = 59 then i else e) : zFG c n (n - (i + 1)) (i + 1) e' = zFG c n (n - i) i e := by
  obtain ⟨k, hk⟩ : ∃ k, n - i = k + 1 := ⟨n - (i + 1), by omega⟩
  rw [hk, show n - (i + 1) = k by omega, zFG, if_pos hf, he]
theorem zFG_stop {c : Nat → Nat} {n i e : Nat} (hi : i < n) (hf : ¬ zFit c i e = true) : zFG c n (n - i) i e = i := by
  obtain ⟨k, hk⟩ : ∃ k, n - i = k + 1 := ⟨n - (i + 1), by omega⟩
  rw [hk, zFG, if_neg hf]
theorem zFG_le (c : Nat → Nat) (n : Nat) : ∀ (fu p e : Nat), p + fu ≤ n → zFG c n fu p e ≤ n := by
  intro fu
  induction fu with
  | zero => intro p e _; exact Nat.le_refl _
  | succ fu ih =>
    intro p e h
    rw [zFG]
    split
    · exact ih _ _ (by omega)
    · omega
theorem zFault_le (c : Nat → Nat) (n : Nat) : zFault c n ≤ n := zFG_le c n n 0 n (by omega)
theorem z_at2 {codes : Nat → Nat} {size : Nat} (hs : size ≤ 18) (hc : ∀ i, codes i < 127) : zAt (fun i => nI (codes i)) 18 (nI size - 2) = 59 ↔ (2 ≤ size ∧ codes (size - 2) = 59) := by
  have e2 : (2 : Int32) = nI 2 := rfl
  have e59 : (59 : Int32) = nI 59 := rfl
  by_cases h : 2 ≤ size
  · rw [e2, pk_sub h, zAt_n (F := codes) (by omega) (by omega), e59]
    have := hc (size - 2)
    rw [nI_eq (by omega) (by omega)]
    exact ⟨fun q => ⟨h, q⟩, fun q => q.2⟩
  · have hn : nI size - 2 < 0 := by rw [e2]; exact pk_sneg (by omega) (by omega)
    rw [zAt, if_pos hn]
    exact ⟨fun q => absurd q (by decide), fun q => absurd q.1 h⟩
theorem zi_X5_codeAt_X5 : ∀ w ∈ wsX50, w ∈ wsX5_codeAt := fun _ h => List.mem_cons_of_mem _ (List.mem_append_right _ (h))
abbrev rm_X5_codeAt : Room := { frames := 1, cells := 0, slots := 0, locals := 21 }
set_option maxHeartbeats 4000000 in
set_option maxRecDepth 100000 in
theorem c_X5_codeAt (l : Launch) (D : va_G) (cI cB cP : ClassId) (h0 : Nat) (a1 : Nat) (size : Nat) (codes : Nat → Nat) (k : Nat) (hk : k < 18)  : zPi l D cI cB cP yX5_codeAt wsX5_codeAt rm_X5_codeAt [.ref h0, .int (nI k)] ([(h0, .inr (5, [.ref a1, .int (nI size)])), (a1, .inl (cI, 18, .inl (fun q_ => nI (codes q_))))]) (fun r => r = nI (codes k)) := by
  refine zPi_of (cc := cX5_codeAt) (maxL := 2) (by decide) rfl (Nat.le_of_ble_eq_true rfl) ?_
  intro p e s m args below meth c ls Q hx hb hml hts hown hP hK hN hl hret
  have hown : s.vm.findClass RX5 = some m.cls := hown
  have hl : lv_has ls 2 [(0, .ref h0), (1, .int (nI k))] := hl
  refine lv_aload_n hx hb dX5_codeAt_0 rfl (lv_at hl 0 rfl) ?_
  refine va_get (D := D) (ci := 5) (v := .ref a1) (C := RX5) (T := TX5) (N := 2) hx hb hts zi_X5_codeAt_X5 hown hK hP 0 rfl rfl 0 (by decide) (hts (.fieldLink RX5 11 "BeatenInstead$Page" "codes" "[I") (List.mem_of_getElem? (i := 1) rfl)) (fun _ h9 => h9) rfl dX5_codeAt_1 ?_
  refine lv_iload_n hx hb dX5_codeAt_4 rfl (lv_at hl 1 rfl) ?_
  refine vp_callSi (z_runSN (As := [.ref a1, .int (nI k)]) (rest := []) hx hb hml hown hts hK hN hl.1 (c_X10_at_n l D cI cB cP a1 18 codes k (by first | assumption | omega) (by first | assumption | omega)) gX5_codeAt_X10_at_n23 rfl 25 rfl (List.mem_of_getElem? (i := 3) rfl) (List.mem_of_getElem? (i := 2) rfl) zd_X10_at rfl (Nat.le_of_ble_eq_true rfl) (Nat.le_of_ble_eq_true rfl) (va_P.sub (ws' := [(a1, .inl (cI, 18, .inl (fun q_ => nI (codes q_))))]) hP [1] rfl) rfl (Nat.le_of_ble_eq_true rfl) dX5_codeAt_5 ⟨Nat.zero_le _, Nat.zero_le _⟩) (fun r hr => ?_)
  subst hr
  exact hret _ _ _ dX5_codeAt_8 rfl

abbrev rm_X5_codeAt_i : Room := { frames := 1, cells := 0, slots := 0, locals := 21 }
set_option maxHeartbeats 4000000 in
set_option maxRecDepth 100000 in
theorem c_X5_codeAt_i (l : Launch) (D : va_G) (cI cB cP : ClassId) (h0 : Nat) (a1 : Nat) (size : Nat) (codes : Nat → Nat) (i : Int32)   : zPi l D cI cB cP yX5_codeAt wsX5_codeAt rm_X5_codeAt_i [.ref h0, .int i] ([(h0, .inr (5, [.ref a1, .int (nI size)])), (a1, .inl (cI, 18, .inl (fun q_ => nI (codes q_))))]) (fun r => r = zAt (fun q_ => nI (codes q_)) 18 i) := by
  refine zPi_of (cc := cX5_codeAt) (maxL := 2) (by decide) rfl (Nat.le_of_ble_eq_true rfl) ?_
  intro p e s m args below meth c ls Q hx hb hml hts hown hP hK hN hl hret
  have hown : s.vm.findClass RX5 = some m.cls := hown
  have hl : lv_has ls 2 [(0, .ref h0), (1, .int i)] := hl
  refine lv_aload_n hx hb dX5_codeAt_0 rfl (lv_at hl 0 rfl) ?_
  refine va_get (D := D) (ci := 5) (v := .ref a1) (C := RX5) (T := TX5) (N := 2) hx hb hts zi_X5_codeAt_X5 hown hK hP 0 rfl rfl 0 (by decide) (hts (.fieldLink RX5 11 "BeatenInstead$Page" "codes" "[I") (List.mem_of_getElem? (i := 1) rfl)) (fun _ h9 => h9) rfl dX5_codeAt_1 ?_
  refine lv_iload_n hx hb dX5_codeAt_4 rfl (lv_at hl 1 rfl) ?_
  refine vp_callSi (z_runSN (As := [.ref a1, .int i]) (rest := []) hx hb hml hown hts hK hN hl.1 (c_X10_at l D cI cB cP a1 18 (fun q_ => nI (codes q_)) i (by first | assumption | omega)) gX5_codeAt_X10_at_n23 rfl 25 rfl (List.mem_of_getElem? (i := 3) rfl) (List.mem_of_getElem? (i := 2) rfl) zd_X10_at rfl (Nat.le_of_ble_eq_true rfl) (Nat.le_of_ble_eq_true rfl) (va_P.sub (ws' := [(a1, .inl (cI, 18, .inl ((fun q_ => nI (codes q_)))))]) hP [1] rfl) rfl (Nat.le_of_ble_eq_true rfl) dX5_codeAt_5 ⟨Nat.zero_le _, Nat.zero_le _⟩) (fun r hr => ?_)
  subst hr
  exact hret _ _ _ dX5_codeAt_8 rfl

theorem zi_X5_digitAt_X5 : ∀ w ∈ wsX50, w ∈ wsX5_digitAt := fun _ h => List.mem_cons_of_mem _ (List.mem_append_right _ (h))
abbrev rm_X5_digitAt : Room := { frames := 1, cells := 0, slots := 0, locals := 21 }
set_option maxHeartbeats 4000000 in
set_option maxRecDepth 100000 in
theorem c_X5_digitAt (l : Launch) (D : va_G) (cI cB cP : ClassId) (h0 : Nat) (a1 : Nat) (size : Nat) (codes : Nat → Nat) (k : Nat) (hk : k < 18)  : zPi l D cI cB cP yX5_digitAt wsX5_digitAt rm_X5_digitAt [.ref h0, .int (nI k)] ([(h0, .inr (5, [.ref a1, .int (nI size)])), (a1, .inl (cI, 18, .inl (fun q_ => nI (codes q_))))]) (fun r => r = nI (codes k) - 48) := by
  refine zPi_of (cc := cX5_digitAt) (maxL := 2) (by decide) rfl (Nat.le_of_ble_eq_true rfl) ?_
  intro p e s m args below meth c ls Q hx hb hml hts hown hP hK hN hl hret
  have hown : s.vm.findClass RX5 = some m.cls := hown
  have hl : lv_has ls 2 [(0, .ref h0), (1, .int (nI k))] := hl
  refine lv_aload_n hx hb dX5_digitAt_0 rfl (lv_at hl 0 rfl) ?_
  refine va_get (D := D) (ci := 5) (v := .ref a1) (C := RX5) (T := TX5) (N := 2) hx hb hts zi_X5_digitAt_X5 hown hK hP 0 rfl rfl 0 (by decide) (hts (.fieldLink RX5 11 "BeatenInstead$Page" "codes" "[I") (List.mem_of_getElem? (i := 1) rfl)) (fun _ h9 => h9) rfl dX5_digitAt_1 ?_
  refine lv_iload_n hx hb dX5_digitAt_4 rfl (lv_at hl 1 rfl) ?_
  refine vp_callSi (z_runSN (As := [.ref a1, .int (nI k)]) (rest := []) hx hb hml hown hts hK hN hl.1 (c_X10_at_n l D cI cB cP a1 18 codes k (by first | assumption | omega) (by first | assumption | omega)) gX5_digitAt_X10_at_n23 rfl 25 rfl (List.mem_of_getElem? (i := 3) rfl) (List.mem_of_getElem? (i := 2) rfl) zd_X10_at rfl (Nat.le_of_ble_eq_true rfl) (Nat.le_of_ble_eq_true rfl) (va_P.sub (ws' := [(a1, .inl (cI, 18, .inl (fun q_ => nI (codes q_))))]) hP [1] rfl) rfl (Nat.le_of_ble_eq_true rfl) dX5_digitAt_5 ⟨Nat.zero_le _, Nat.zero_le _⟩) (fun r hr => ?_)
  subst hr
  refine lv_bipush (v := (48)) hx hb dX5_digitAt_8 (by decide) ?_
  refine lv_isub hx hb dX5_digitAt_10 ?_
  exact hret _ _ _ dX5_digitAt_11 (by first | rfl | omega | (simp; omega) | simp_all)

abbrev rm_X5_isDigit : Room := { frames := 2, cells := 0, slots := 0, locals := 42 }
set_option maxHeartbeats 4000000 in
set_option maxRecDepth 100000 in
theorem c_X5_isDigit (l : Launch) (D : va_G) (cI cB cP : ClassId) (h0 : Nat) (a1 : Nat) (size : Nat) (codes : Nat → Nat) (k : Nat) (lo : Nat) (hi : Nat) (hk : k < 18) (hlo : lo < 10) (hhi : hi < 10) (hc : codes k < 127)  : zPi l D cI cB cP yX5_isDigit wsX5_isDigit rm_X5_isDigit [.ref h0, .int (nI k), .int (nI lo), .int (nI hi)] ([(h0, .inr (5, [.ref a1, .int (nI size)])), (a1, .inl (cI, 18, .inl (fun q_ => nI (codes q_))))]) (fun r => zB (lo + 48 ≤ codes k ∧ codes k ≤ hi + 48) r) := by
  refine zPz_of (cc := cX5_isDigit) (maxL := 4) (by decide) rfl (Nat.le_of_ble_eq_true rfl) ?_
  intro p e s m args below meth c ls Q hx hb hml hts hown hP hK hN hl hret
  have hown : s.vm.findClass RX5 = some m.cls := hown
  have hl : lv_has ls 4 [(0, .ref h0), (1, .int (nI k)), (2, .int (nI lo)), (3, .int (nI hi))] := hl
  refine lv_aload_n hx hb dX5_isDigit_0 rfl (lv_at hl 0 rfl) ?_
  refine lv_iload_n hx hb dX5_isDigit_1 rfl (lv_at hl 1 rfl) ?_
  refine vp_callSi (z_runV (b := h0) (As := [.int (nI k)]) (rest := []) hx hb hml hown hts hK hN hl.1 (c_X5_digitAt l D cI cB cP h0 a1 size codes k (by first | assumption | omega)) gX5_isDigit_X5_digitAt rfl zd_X5_digitAt rfl (Nat.le_of_ble_eq_true rfl) (Nat.le_of_ble_eq_true rfl) (va_P.sub (ws' := [(h0, .inr (5, [.ref a1, .int (nI size)])), (a1, .inl (cI, 18, .inl (fun q_ => nI (codes q_))))]) hP [0, 1] rfl) (va_recv hK hP (ci := 5) (q0 := 0) rfl rfl) rfl (Nat.le_of_ble_eq_true rfl) dX5_isDigit_2 ⟨Nat.zero_le _, Nat.zero_le _⟩) (fun r hr => ?_)
  subst hr
  refine lv_iload_n hx hb dX5_isDigit_5 rfl (lv_at hl 2 rfl) ?_
  refine lv_icmp_lt (tgt := 22) hx hb dX5_isDigit_6 (by decide) (fun c_1 => ?_) (fun c_1 => ?_)
  · skip
    refine lv_iconst (v := 0) hx hb dX5_isDigit_22 (by decide) ?_
    exact hret _ _ _ dX5_isDigit_23 rfl (zB.f (by have e1 := z_slt (a := codes k) (b := 48) (k := lo) (by omega) (by omega) (by omega); have e2 := z_sgt (a := codes k) (b := 48) (k := hi) (by omega) (by omega) (by omega); first | (have := e1.mp c_1; omega) | (have h1 := (not_congr e1).mp c_1; first | (have := e2.mp c_2; omega) | (have := (not_congr e2).mp c_2; omega))))
  · skip
    refine lv_aload_n hx hb dX5_isDigit_9 rfl (lv_at hl 0 rfl) ?_
    refine lv_iload_n hx hb dX5_isDigit_10 rfl (lv_at hl 1 rfl) ?_
    refine vp_callSi (z_runV (b := h0) (As := [.int (nI k)]) (rest := []) hx hb hml hown hts hK hN hl.1 (c_X5_digitAt l D cI cB cP h0 a1 size codes k (by first | assumption | omega)) gX5_isDigit_X5_digitAt rfl zd_X5_digitAt rfl (Nat.le_of_ble_eq_true rfl) (Nat.le_of_ble_eq_true rfl) (va_P.sub (ws' := [(h0, .inr (5, [.ref a1, .int (nI size)])), (a1, .inl (cI, 18, .inl (fun q_ => nI (codes q_))))]) hP [0, 1] rfl) (va_recv hK hP (ci := 5) (q0 := 0) rfl rfl) rfl (Nat.le_of_ble_eq_true rfl) dX5_isDigit_11 ⟨Nat.zero_le _, Nat.zero_le _⟩) (fun r hr => ?_)
    subst hr
    refine lv_iload_n hx hb dX5_isDigit_14 rfl (lv_at hl 3 rfl) ?_
    refine lv_icmp_gt (tgt := 22) hx hb dX5_isDigit_15 (by decide) (fun c_2 => ?_) (fun c_2 => ?_)
    · skip
      refine lv_iconst (v := 0) hx hb dX5_isDigit_22 (by decide) ?_
      exact hret _ _ _ dX5_isDigit_23 rfl (zB.f (by have e1 := z_slt (a := codes k) (b := 48) (k := lo) (by omega) (by omega) (by omega); have e2 := z_sgt (a := codes k) (b := 48) (k := hi) (by omega) (by omega) (by omega); first | (have := e1.mp c_1; omega) | (have h1 := (not_congr e1).mp c_1; first | (have := e2.mp c_2; omega) | (have := (not_congr e2).mp c_2; omega))))
    · skip
      refine lv_iconst (v := 1) hx hb dX5_isDigit_18 (by decide) ?_
      refine lv_goto (tgt := 23) hx hb dX5_isDigit_19 (by decide) ?_
      exact hret _ _ _ dX5_isDigit_23 rfl (zB.t (by have e1 := z_slt (a := codes k) (b := 48) (k := lo) (by omega) (by omega) (by omega); have e2 := z_sgt (a := codes k) (b := 48) (k := hi) (by omega) (by omega) (by omega); first | (have := e1.mp c_1; omega) | (have h1 := (not_congr e1).mp c_1; first | (have := e2.mp c_2; omega) | (have := (not_congr e2).mp c_2; omega))))

abbrev rm_X5_isLimit : Room := { frames := 3, cells := 0, slots := 0, locals := 65 }
set_option maxHeartbeats 4000000 in
set_option maxRecDepth 100000 in
theorem c_X5_isLimit (l : Launch) (D : va_G) (cI cB cP : ClassId) (h0 : Nat) (a1 : Nat) (size : Nat) (codes : Nat → Nat) (k : Nat) (en : Nat) (hk : k < 18) (hen : en < 100) (hc : codes k < 127)  : zPi l D cI cB cP yX5_isLimit wsX5_isLimit rm_X5_isLimit [.ref h0, .int (nI k), .int (nI en)] ([(h0, .inr (5, [.ref a1, .int (nI size)])), (a1, .inl (cI, 18, .inl (fun q_ => nI (codes q_))))]) (fun r => zB (k = en + 1 ∧ 48 ≤ codes k ∧ codes k ≤ 57) r) := by
  refine zPz_of (cc := cX5_isLimit) (maxL := 3) (by decide) rfl (Nat.le_of_ble_eq_true rfl) ?_
  intro p e s m args below meth c ls Q hx hb hml hts hown hP hK hN hl hret
  have hown : s.vm.findClass RX5 = some m.cls := hown
  have hl : lv_has ls 3 [(0, .ref h0), (1, .int (nI k)), (2, .int (nI en))] := hl
  refine lv_iload_n hx hb dX5_isLimit_0 rfl (lv_at hl 1 rfl) ?_
  refine lv_iload_n hx hb dX5_isLimit_1 rfl (lv_at hl 2 rfl) ?_
  refine lv_iconst (v := 1) hx hb dX5_isLimit_2 (by decide) ?_
  refine lv_iadd hx hb dX5_isLimit_3 ?_
  refine z_top (show ((nI en) + 1) = nI (en + 1) from nI_add en 1) ?_
  refine lv_icmp_ne (tgt := 22) hx hb dX5_isLimit_4 (by decide) (fun c_1 => ?_) (fun c_1 => ?_)
  · skip
    have c_1 : ¬ (k = en + 1) := (not_congr (nI_eq (a := k) (b := en + 1) (by omega) (by omega))).mp c_1
    refine lv_iconst (v := 0) hx hb dX5_isLimit_22 (by decide) ?_
    exact hret _ _ _ dX5_isLimit_23 rfl (zB.f (by omega))
  · skip
    have c_1 : k = en + 1 := (nI_eq (a := k) (b := en + 1) (by omega) (by omega)).mp c_1
    refine lv_aload_n hx hb dX5_isLimit_7 rfl (lv_at hl 0 rfl) ?_
    refine lv_iload_n hx hb dX5_isLimit_8 rfl (lv_at hl 1 rfl) ?_
    refine lv_iconst (v := 0) hx hb dX5_isLimit_9 (by decide) ?_
    refine lv_bipush (v := (9)) hx hb dX5_isLimit_10 (by decide) ?_
    refine vp_callSi (z_runV (b := h0) (As := [.int (nI k), .int 0, .int 9]) (rest := []) hx hb hml hown hts hK hN hl.1 (c_X5_isDigit l D cI cB cP h0 a1 size codes k 0 9 (by first | assumption | omega) (by first | assumption | omega) (by first | assumption | omega) (by first | assumption | omega)) gX5_isLimit_X5_isDigit rfl zd_X5_isDigit rfl (Nat.le_of_ble_eq_true rfl) (Nat.le_of_ble_eq_true rfl) (va_P.sub (ws' := [(h0, .inr (5, [.ref a1, .int (nI size)])), (a1, .inl (cI, 18, .inl (fun q_ => nI (codes q_))))]) hP [0, 1] rfl) (va_recv hK hP (ci := 5) (q0 := 0) rfl rfl) rfl (Nat.le_of_ble_eq_true rfl) dX5_isLimit_12 ⟨Nat.zero_le _, Nat.zero_le _⟩) (fun r hr => ?_)
    rcases hr with ⟨rfl, c_2⟩ | ⟨rfl, c_2⟩
    · skip
      refine lv_if_eq (tgt := 22) hx hb dX5_isLimit_15 (by decide) (fun c => absurd c (by decide)) (fun _ => ?_)
      refine lv_iconst (v := 1) hx hb dX5_isLimit_18 (by decide) ?_
      refine lv_goto (tgt := 23) hx hb dX5_isLimit_19 (by decide) ?_
      exact hret _ _ _ dX5_isLimit_23 rfl (zB.t (by omega))
    · skip
      refine lv_if_eq (tgt := 22) hx hb dX5_isLimit_15 (by decide) (fun _ => ?_) (fun c => absurd c (by decide))
      refine lv_iconst (v := 0) hx hb dX5_isLimit_22 (by decide) ?_
      exact hret _ _ _ dX5_isLimit_23 rfl (zB.f (by omega))

abbrev rm_X5_isOfLesson : Room := { frames := 3, cells := 0, slots := 0, locals := 65 }
set_option maxHeartbeats 4000000 in
set_option maxRecDepth 100000 in
theorem c_X5_isOfLesson (l : Launch) (D : va_G) (cI cB cP : ClassId) (h0 : Nat) (a1 : Nat) (size : Nat) (codes : Nat → Nat) (k : Nat) (hk : k < 18) (hc : codes k < 127)  : zPi l D cI cB cP yX5_isOfLesson wsX5_isOfLesson rm_X5_isOfLesson [.ref h0, .int (nI k)] ([(h0, .inr (5, [.ref a1, .int (nI size)])), (a1, .inl (cI, 18, .inl (fun q_ => nI (codes q_))))]) (fun r => zB (zLes codes k) r) := by
  refine zPz_of (cc := cX5_isOfLesson) (maxL := 2) (by decide) rfl (Nat.le_of_ble_eq_true rfl) ?_
  intro p e s m args below meth c ls Q hx hb hml hts hown hP hK hN hl hret
  have hown : s.vm.findClass RX5 = some m.cls := hown
  have hl : lv_has ls 2 [(0, .ref h0), (1, .int (nI k))] := hl
  refine lv_iload_n hx hb dX5_isOfLesson_0 rfl (lv_at hl 1 rfl) ?_
  refine lv_iconst (v := 3) hx hb dX5_isOfLesson_1 (by decide) ?_
  refine lv_irem hx hb dX5_isOfLesson_2 (by decide) ?_
  refine z_top (show ((nI k) - (nI k) / 3 * 3) = nI (k % 3) from pk_rem (a := k) (d := 3) (by omega) (by omega) (by omega)) ?_
  rcases z_m3 (k) with w_9 | w_9 | w_9
  · skip
    refine z_top (show nI (k % 3) = nI 0 from congrArg nI w_9) ?_
    refine lv_lookup (tgt := 28) (off := 25) hx hb dX5_isOfLesson_3 (by decide +kernel) (by decide +kernel) (by decide) ?_
    refine lv_aload_n hx hb dX5_isOfLesson_28 rfl (lv_at hl 0 rfl) ?_
    refine lv_iload_n hx hb dX5_isOfLesson_29 rfl (lv_at hl 1 rfl) ?_
    refine lv_iconst (v := 1) hx hb dX5_isOfLesson_30 (by decide) ?_
    refine lv_bipush (v := (9)) hx hb dX5_isOfLesson_31 (by decide) ?_
    refine vp_callSi (z_runV (b := h0) (As := [.int (nI k), .int 1, .int 9]) (rest := []) hx hb hml hown hts hK hN hl.1 (c_X5_isDigit l D cI cB cP h0 a1 size codes k 1 9 (by first | assumption | omega) (by first | assumption | omega) (by first | assumption | omega) (by first | assumption | omega)) gX5_isOfLesson_X5_isDigit rfl zd_X5_isDigit rfl (Nat.le_of_ble_eq_true rfl) (Nat.le_of_ble_eq_true rfl) (va_P.sub (ws' := [(h0, .inr (5, [.ref a1, .int (nI size)])), (a1, .inl (cI, 18, .inl (fun q_ => nI (codes q_))))]) hP [0, 1] rfl) (va_recv hK hP (ci := 5) (q0 := 0) rfl rfl) rfl (Nat.le_of_ble_eq_true rfl) dX5_isOfLesson_33 ⟨Nat.zero_le _, Nat.zero_le _⟩) (fun r hr => ?_)
    rcases hr with ⟨rfl, c_1⟩ | ⟨rfl, c_1⟩
    · skip
      exact hret _ _ _ dX5_isOfLesson_36 rfl (zB.t (by unfold zLes; split <;> (try split) <;> omega))
    · skip
      exact hret _ _ _ dX5_isOfLesson_36 rfl (zB.f (by unfold zLes; split <;> (try split) <;> omega))
  · skip
    refine z_top (show nI (k % 3) = nI 1 from congrArg nI w_9) ?_
    refine lv_lookup (tgt := 37) (off := 34) hx hb dX5_isOfLesson_3 (by decide +kernel) (by decide +kernel) (by decide) ?_
    refine lv_aload_n hx hb dX5_isOfLesson_37 rfl (lv_at hl 0 rfl) ?_
    refine lv_iload_n hx hb dX5_isOfLesson_38 rfl (lv_at hl 1 rfl) ?_
    refine lv_iconst (v := 1) hx hb dX5_isOfLesson_39 (by decide) ?_
    refine lv_iconst (v := 5) hx hb dX5_isOfLesson_40 (by decide) ?_
    refine vp_callSi (z_runV (b := h0) (As := [.int (nI k), .int 1, .int 5]) (rest := []) hx hb hml hown hts hK hN hl.1 (c_X5_isDigit l D cI cB cP h0 a1 size codes k 1 5 (by first | assumption | omega) (by first | assumption | omega) (by first | assumption | omega) (by first | assumption | omega)) gX5_isOfLesson_X5_isDigit rfl zd_X5_isDigit rfl (Nat.le_of_ble_eq_true rfl) (Nat.le_of_ble_eq_true rfl) (va_P.sub (ws' := [(h0, .inr (5, [.ref a1, .int (nI size)])), (a1, .inl (cI, 18, .inl (fun q_ => nI (codes q_))))]) hP [0, 1] rfl) (va_recv hK hP (ci := 5) (q0 := 0) rfl rfl) rfl (Nat.le_of_ble_eq_true rfl) dX5_isOfLesson_41 ⟨Nat.zero_le _, Nat.zero_le _⟩) (fun r hr => ?_)
    rcases hr with ⟨rfl, c_1⟩ | ⟨rfl, c_1⟩
    · skip
      exact hret _ _ _ dX5_isOfLesson_44 rfl (zB.t (by unfold zLes; split <;> (try split) <;> omega))
    · skip
      exact hret _ _ _ dX5_isOfLesson_44 rfl (zB.f (by unfold zLes; split <;> (try split) <;> omega))
  · skip
    refine z_top (show nI (k % 3) = nI 2 from congrArg nI w_9) ?_
    refine lv_lookup (tgt := 45) (off := 42) hx hb dX5_isOfLesson_3 (by decide +kernel) (by decide +kernel) (by decide) ?_
    refine lv_aload_n hx hb dX5_isOfLesson_45 rfl (lv_at hl 0 rfl) ?_
    refine lv_iload_n hx hb dX5_isOfLesson_46 rfl (lv_at hl 1 rfl) ?_
    refine vp_callSi (z_runV (b := h0) (As := [.int (nI k)]) (rest := []) hx hb hml hown hts hK hN hl.1 (c_X5_codeAt l D cI cB cP h0 a1 size codes k (by first | assumption | omega)) gX5_isOfLesson_X5_codeAt rfl zd_X5_codeAt rfl (Nat.le_of_ble_eq_true rfl) (Nat.le_of_ble_eq_true rfl) (va_P.sub (ws' := [(h0, .inr (5, [.ref a1, .int (nI size)])), (a1, .inl (cI, 18, .inl (fun q_ => nI (codes q_))))]) hP [0, 1] rfl) (va_recv hK hP (ci := 5) (q0 := 0) rfl rfl) rfl (Nat.le_of_ble_eq_true rfl) dX5_isOfLesson_47 ⟨Nat.zero_le _, Nat.zero_le _⟩) (fun r hr => ?_)
    subst hr
    refine lv_bipush (v := (59)) hx hb dX5_isOfLesson_50 (by decide) ?_
    refine lv_icmp_eq (tgt := 71) hx hb dX5_isOfLesson_52 (by decide) (fun c_1 => ?_) (fun c_1 => ?_)
    · skip
      have c_1 : codes k = 59 := (nI_eq (a := codes k) (b := 59) (by omega) (by omega)).mp c_1
      refine lv_iconst (v := 1) hx hb dX5_isOfLesson_71 (by decide) ?_
      refine lv_goto (tgt := 76) hx hb dX5_isOfLesson_72 (by decide) ?_
      exact hret _ _ _ dX5_isOfLesson_76 rfl (zB.t (by unfold zLes; split <;> (try split) <;> omega))
    · skip
      have c_1 : ¬ (codes k = 59) := (not_congr (nI_eq (a := codes k) (b := 59) (by omega) (by omega))).mp c_1
      refine lv_aload_n hx hb dX5_isOfLesson_55 rfl (lv_at hl 0 rfl) ?_
      refine lv_iload_n hx hb dX5_isOfLesson_56 rfl (lv_at hl 1 rfl) ?_
      refine vp_callSi (z_runV (b := h0) (As := [.int (nI k)]) (rest := []) hx hb hml hown hts hK hN hl.1 (c_X5_codeAt l D cI cB cP h0 a1 size codes k (by first | assumption | omega)) gX5_isOfLesson_X5_codeAt rfl zd_X5_codeAt rfl (Nat.le_of_ble_eq_true rfl) (Nat.le_of_ble_eq_true rfl) (va_P.sub (ws' := [(h0, .inr (5, [.ref a1, .int (nI size)])), (a1, .inl (cI, 18, .inl (fun q_ => nI (codes q_))))]) hP [0, 1] rfl) (va_recv hK hP (ci := 5) (q0 := 0) rfl rfl) rfl (Nat.le_of_ble_eq_true rfl) dX5_isOfLesson_57 ⟨Nat.zero_le _, Nat.zero_le _⟩) (fun r hr => ?_)
      subst hr
      refine lv_bipush (v := (44)) hx hb dX5_isOfLesson_60 (by decide) ?_
      refine lv_icmp_ne (tgt := 75) hx hb dX5_isOfLesson_62 (by decide) (fun c_2 => ?_) (fun c_2 => ?_)
      · skip
        have c_2 : ¬ (codes k = 44) := (not_congr (nI_eq (a := codes k) (b := 44) (by omega) (by omega))).mp c_2
        refine lv_iconst (v := 0) hx hb dX5_isOfLesson_75 (by decide) ?_
        exact hret _ _ _ dX5_isOfLesson_76 rfl (zB.f (by unfold zLes; split <;> (try split) <;> omega))
      · skip
        have c_2 : codes k = 44 := (nI_eq (a := codes k) (b := 44) (by omega) (by omega)).mp c_2
        refine lv_iload_n hx hb dX5_isOfLesson_65 rfl (lv_at hl 1 rfl) ?_
        refine lv_bipush (v := (14)) hx hb dX5_isOfLesson_66 (by decide) ?_
        refine lv_icmp_ge (tgt := 75) hx hb dX5_isOfLesson_68 (by decide) (fun c_3 => ?_) (fun c_3 => ?_)
        · skip
          have c_3 : 14 ≤ k := (nI_leI (a := 14) (b := k) (by omega) (by omega)).mp c_3
          refine lv_iconst (v := 0) hx hb dX5_isOfLesson_75 (by decide) ?_
          exact hret _ _ _ dX5_isOfLesson_76 rfl (zB.f (by unfold zLes; split <;> (try split) <;> omega))
        · skip
          have c_3 : ¬ (14 ≤ k) := (not_congr (nI_leI (a := 14) (b := k) (by omega) (by omega))).mp c_3
          refine lv_iconst (v := 1) hx hb dX5_isOfLesson_71 (by decide) ?_
          refine lv_goto (tgt := 76) hx hb dX5_isOfLesson_72 (by decide) ?_
          exact hret _ _ _ dX5_isOfLesson_76 rfl (zB.t (by unfold zLes; split <;> (try split) <;> omega))

theorem zi_X5_firstFault_X5 : ∀ w ∈ wsX50, w ∈ wsX5_firstFault := fun _ h => List.mem_cons_of_mem _ (List.mem_append_right _ (h))
abbrev rm_X5_firstFault : Room := { frames := 4, cells := 0, slots := 0, locals := 87 }
set_option maxHeartbeats 4000000 in
set_option maxRecDepth 100000 in
theorem c_X5_firstFault (l : Launch) (D : va_G) (cI cB cP : ClassId) (h0 : Nat) (a1 : Nat) (size : Nat) (codes : Nat → Nat) (hs : size ≤ 18) (hc : ∀ i, codes i < 127)  : zPi l D cI cB cP yX5_firstFault wsX5_firstFault rm_X5_firstFault [.ref h0] ([(h0, .inr (5, [.ref a1, .int (nI size)])), (a1, .inl (cI, 18, .inl (fun q_ => nI (codes q_))))]) (fun r => r = nI (zFault codes size)) := by
  refine zPi_of (cc := cX5_firstFault) (maxL := 4) (by decide) rfl (Nat.le_of_ble_eq_true rfl) ?_
  intro p e s m args below meth c ls Q hx hb hml hts hown hP hK hN hl hret
  have hown : s.vm.findClass RX5 = some m.cls := hown
  have hl : lv_has ls 4 [(0, .ref h0)] := hl
  have hc127 : ∀ i, codes i < 2 ^ 31 := fun i => by have := hc i; omega
  refine lv_aload_n hx hb dX5_firstFault_0 rfl (lv_at hl 0 rfl) ?_
  refine va_get (D := D) (ci := 5) (v := .int (nI size)) (C := RX5) (T := TX5) (N := 2) hx hb hts zi_X5_firstFault_X5 hown hK hP 0 rfl rfl 1 (by decide) (hts (.fieldLink RX5 15 "BeatenInstead$Page" "size" "I") (List.mem_of_getElem? (i := 1) rfl)) (fun _ h9 => h9) rfl dX5_firstFault_1 ?_
  refine lv_istore_n (lv' := [(1, .int (nI size)), (0, .ref h0)]) hx hb dX5_firstFault_4 rfl hl (by decide) rfl (fun ls hl => ?_)
  refine lv_iconst (v := 0) hx hb dX5_firstFault_5 (by decide) ?_
  refine lv_istore_n (lv' := [(2, .int 0), (1, .int (nI size)), (0, .ref h0)]) hx hb dX5_firstFault_6 rfl hl (by decide) rfl (fun ls hl => ?_)
  have loop_7 : ∀ (fu_7 : Nat) (en i : Nat), (i ≤ size) → (en ≤ 18) → (zFG codes size (size - i) i en = zFault codes size) → size - i < fu_7 → ∀ (ls : Array Slot), lv_has ls 4 [(2, .int (nI i)), (1, .int (nI en)), (0, .ref h0)] → W p l e rm_X5_firstFault s m args below meth c s.heap [] 0 0 Q (F0 m 7 ls []) := by
    intro fu_7
    induction fu_7 with
    | zero => intro en i hi he hF hn_7; exact absurd hn_7 (by omega)
    | succ fu_7 ih_7 =>
      intro en i hi he hF hn_7 ls hl
      refine lv_iload_n hx hb dX5_firstFault_7 rfl (lv_at hl 0 rfl) ?_
      refine lv_aload_n hx hb dX5_firstFault_8 rfl (lv_at hl 2 rfl) ?_
      refine va_get (D := D) (ci := 5) (v := .int (nI size)) (C := RX5) (T := TX5) (N := 2) hx hb hts zi_X5_firstFault_X5 hown hK hP 0 rfl rfl 1 (by decide) (hts (.fieldLink RX5 15 "BeatenInstead$Page" "size" "I") (List.mem_of_getElem? (i := 1) rfl)) (fun _ h9 => h9) rfl dX5_firstFault_9 ?_
      refine lv_icmp_ge (tgt := 59) hx hb dX5_firstFault_12 (by decide) (fun c_1 => ?_) (fun c_1 => ?_)
      · skip
        have c_1 : size ≤ i := (nI_leI (a := size) (b := i) (by omega) (by omega)).mp c_1
        refine lv_aload_n hx hb dX5_firstFault_59 rfl (lv_at hl 2 rfl) ?_
        refine va_get (D := D) (ci := 5) (v := .int (nI size)) (C := RX5) (T := TX5) (N := 2) hx hb hts zi_X5_firstFault_X5 hown hK hP 0 rfl rfl 1 (by decide) (hts (.fieldLink RX5 15 "BeatenInstead$Page" "size" "I") (List.mem_of_getElem? (i := 1) rfl)) (fun _ h9 => h9) rfl dX5_firstFault_60 ?_
        exact hret _ _ _ dX5_firstFault_63 (by rw [← hF, show size - i = 0 by omega]; rfl)
      · skip
        have c_1 : ¬ (size ≤ i) := (not_congr (nI_leI (a := size) (b := i) (by omega) (by omega))).mp c_1
        refine lv_iload_n hx hb dX5_firstFault_15 rfl (lv_at hl 0 rfl) ?_
        refine lv_iload_n hx hb dX5_firstFault_16 rfl (lv_at hl 1 rfl) ?_
        refine lv_icmp_le (tgt := 29) hx hb dX5_firstFault_17 (by decide) (fun c_2 => ?_) (fun c_2 => ?_)
        · skip
          have c_2 : i ≤ en := (nI_leI (a := i) (b := en) (by omega) (by omega)).mp c_2
          refine lv_aload_n hx hb dX5_firstFault_29 rfl (lv_at hl 2 rfl) ?_
          refine lv_iload_n hx hb dX5_firstFault_30 rfl (lv_at hl 0 rfl) ?_
          refine vp_callSi (z_runV (b := h0) (As := [.int (nI i)]) (rest := []) hx hb hml hown hts hK hN hl.1 (c_X5_isOfLesson l D cI cB cP h0 a1 size codes i (by first | assumption | omega) (hc _)) gX5_firstFault_X5_isOfLesson rfl zd_X5_isOfLesson rfl (Nat.le_of_ble_eq_true rfl) (Nat.le_of_ble_eq_true rfl) (va_P.sub (ws' := [(h0, .inr (5, [.ref a1, .int (nI size)])), (a1, .inl (cI, 18, .inl (fun q_ => nI (codes q_))))]) hP [0, 1] rfl) (va_recv hK hP (ci := 5) (q0 := 0) rfl rfl) rfl (Nat.le_of_ble_eq_true rfl) dX5_firstFault_31 ⟨Nat.zero_le _, Nat.zero_le _⟩) (fun r hr => ?_)
          rcases hr with ⟨rfl, c_3⟩ | ⟨rfl, c_3⟩
          · skip
            refine lv_istore_n (lv' := [(3, .int 1), (2, .int (nI i)), (1, .int (nI en)), (0, .ref h0)]) hx hb dX5_firstFault_34 rfl hl (by decide) rfl (fun ls hl => ?_)
            refine lv_iload_n hx hb dX5_firstFault_35 rfl (lv_at hl 0 rfl) ?_
            refine lv_if_ne (tgt := 41) hx hb dX5_firstFault_36 (by decide) (fun _ => ?_) (fun c => absurd c (by decide))
            refine lv_aload_n hx hb dX5_firstFault_41 rfl (lv_at hl 3 rfl) ?_
            refine lv_iload_n hx hb dX5_firstFault_42 rfl (lv_at hl 1 rfl) ?_
            refine vp_callSi (z_runV (b := h0) (As := [.int (nI i)]) (rest := []) hx hb hml hown hts hK hN hl.1 (c_X5_codeAt l D cI cB cP h0 a1 size codes i (by first | assumption | omega)) gX5_firstFault_X5_codeAt rfl zd_X5_codeAt rfl (Nat.le_of_ble_eq_true rfl) (Nat.le_of_ble_eq_true rfl) (va_P.sub (ws' := [(h0, .inr (5, [.ref a1, .int (nI size)])), (a1, .inl (cI, 18, .inl (fun q_ => nI (codes q_))))]) hP [0, 1] rfl) (va_recv hK hP (ci := 5) (q0 := 0) rfl rfl) rfl (Nat.le_of_ble_eq_true rfl) dX5_firstFault_43 ⟨Nat.zero_le _, Nat.zero_le _⟩) (fun r hr => ?_)
            subst hr
            have hc_i := hc i
            refine lv_bipush (v := (59)) hx hb dX5_firstFault_46 (by decide) ?_
            refine lv_icmp_ne (tgt := 53) hx hb dX5_firstFault_48 (by decide) (fun c_4 => ?_) (fun c_4 => ?_)
            · skip
              have c_4 : ¬ (codes i = 59) := (not_congr (nI_eq (a := codes i) (b := 59) (by omega) (by omega))).mp c_4
              refine lv_iinc (v := nI (i + 1)) (lv' := [(2, .int (nI (i + 1))), (3, .int 1), (1, .int (nI en)), (0, .ref h0)]) hx hb dX5_firstFault_53 hl (k := 1) rfl (nI_add (i) 1) (by decide) rfl (fun ls hl => ?_)
              refine lv_goto (tgt := 7) hx hb dX5_firstFault_56 (by decide) ?_
              exact ih_7 en (i + 1) (by omega) (by omega) (by rw [← hF]; exact zFG_next (by omega) (by first | exact (zFit_lim (by omega)).mpr c_3 | exact (zFit_les (by omega)).mpr c_3) (by first | rw [if_pos (by omega)] | rw [if_neg (by omega)])) (by omega) ls (lv_sub hl [0, 2, 3] rfl)
            · skip
              have c_4 : codes i = 59 := (nI_eq (a := codes i) (b := 59) (by omega) (by omega)).mp c_4
              refine lv_iload_n hx hb dX5_firstFault_51 rfl (lv_at hl 1 rfl) ?_
              refine lv_istore_n (lv' := [(1, .int (nI i)), (3, .int 1), (2, .int (nI i)), (0, .ref h0)]) hx hb dX5_firstFault_52 rfl hl (by decide) rfl (fun ls hl => ?_)
              refine lv_iinc (v := nI (i + 1)) (lv' := [(2, .int (nI (i + 1))), (1, .int (nI i)), (3, .int 1), (0, .ref h0)]) hx hb dX5_firstFault_53 hl (k := 2) rfl (nI_add (i) 1) (by decide) rfl (fun ls hl => ?_)
              refine lv_goto (tgt := 7) hx hb dX5_firstFault_56 (by decide) ?_
              exact ih_7 i (i + 1) (by omega) (by omega) (by rw [← hF]; exact zFG_next (by omega) (by first | exact (zFit_lim (by omega)).mpr c_3 | exact (zFit_les (by omega)).mpr c_3) (by first | rw [if_pos (by omega)] | rw [if_neg (by omega)])) (by omega) ls (lv_sub hl [0, 1, 3] rfl)
          · skip
            refine lv_istore_n (lv' := [(3, .int 0), (2, .int (nI i)), (1, .int (nI en)), (0, .ref h0)]) hx hb dX5_firstFault_34 rfl hl (by decide) rfl (fun ls hl => ?_)
            refine lv_iload_n hx hb dX5_firstFault_35 rfl (lv_at hl 0 rfl) ?_
            refine lv_if_ne (tgt := 41) hx hb dX5_firstFault_36 (by decide) (fun c => absurd c (by decide)) (fun _ => ?_)
            refine lv_iload_n hx hb dX5_firstFault_39 rfl (lv_at hl 1 rfl) ?_
            exact hret _ _ _ dX5_firstFault_40 (by rw [← hF, zFG_stop (by omega) (by first | exact (not_congr (zFit_lim (by omega))).mpr c_3 | exact (not_congr (zFit_les (by omega))).mpr c_3)])
        · skip
          have c_2 : ¬ (i ≤ en) := (not_congr (nI_leI (a := i) (b := en) (by omega) (by omega))).mp c_2
          refine lv_aload_n hx hb dX5_firstFault_20 rfl (lv_at hl 2 rfl) ?_
          refine lv_iload_n hx hb dX5_firstFault_21 rfl (lv_at hl 0 rfl) ?_
          refine lv_iload_n hx hb dX5_firstFault_22 rfl (lv_at hl 1 rfl) ?_
          refine vp_callSi (z_runV (b := h0) (As := [.int (nI i), .int (nI en)]) (rest := []) hx hb hml hown hts hK hN hl.1 (c_X5_isLimit l D cI cB cP h0 a1 size codes i en (by first | assumption | omega) (by first | assumption | omega) (hc _)) gX5_firstFault_X5_isLimit rfl zd_X5_isLimit rfl (Nat.le_of_ble_eq_true rfl) (Nat.le_of_ble_eq_true rfl) (va_P.sub (ws' := [(h0, .inr (5, [.ref a1, .int (nI size)])), (a1, .inl (cI, 18, .inl (fun q_ => nI (codes q_))))]) hP [0, 1] rfl) (va_recv hK hP (ci := 5) (q0 := 0) rfl rfl) rfl (Nat.le_of_ble_eq_true rfl) dX5_firstFault_23 ⟨Nat.zero_le _, Nat.zero_le _⟩) (fun r hr => ?_)
          rcases hr with ⟨rfl, c_3⟩ | ⟨rfl, c_3⟩
          · skip
            refine lv_goto (tgt := 34) hx hb dX5_firstFault_26 (by decide) ?_
            refine lv_istore_n (lv' := [(3, .int 1), (2, .int (nI i)), (1, .int (nI en)), (0, .ref h0)]) hx hb dX5_firstFault_34 rfl hl (by decide) rfl (fun ls hl => ?_)
            refine lv_iload_n hx hb dX5_firstFault_35 rfl (lv_at hl 0 rfl) ?_
            refine lv_if_ne (tgt := 41) hx hb dX5_firstFault_36 (by decide) (fun _ => ?_) (fun c => absurd c (by decide))
            refine lv_aload_n hx hb dX5_firstFault_41 rfl (lv_at hl 3 rfl) ?_
            refine lv_iload_n hx hb dX5_firstFault_42 rfl (lv_at hl 1 rfl) ?_
            refine vp_callSi (z_runV (b := h0) (As := [.int (nI i)]) (rest := []) hx hb hml hown hts hK hN hl.1 (c_X5_codeAt l D cI cB cP h0 a1 size codes i (by first | assumption | omega)) gX5_firstFault_X5_codeAt rfl zd_X5_codeAt rfl (Nat.le_of_ble_eq_true rfl) (Nat.le_of_ble_eq_true rfl) (va_P.sub (ws' := [(h0, .inr (5, [.ref a1, .int (nI size)])), (a1, .inl (cI, 18, .inl (fun q_ => nI (codes q_))))]) hP [0, 1] rfl) (va_recv hK hP (ci := 5) (q0 := 0) rfl rfl) rfl (Nat.le_of_ble_eq_true rfl) dX5_firstFault_43 ⟨Nat.zero_le _, Nat.zero_le _⟩) (fun r hr => ?_)
            subst hr
            have hc_i := hc i
            refine lv_bipush (v := (59)) hx hb dX5_firstFault_46 (by decide) ?_
            refine lv_icmp_ne (tgt := 53) hx hb dX5_firstFault_48 (by decide) (fun c_4 => ?_) (fun c_4 => ?_)
            · skip
              have c_4 : ¬ (codes i = 59) := (not_congr (nI_eq (a := codes i) (b := 59) (by omega) (by omega))).mp c_4
              refine lv_iinc (v := nI (i + 1)) (lv' := [(2, .int (nI (i + 1))), (3, .int 1), (1, .int (nI en)), (0, .ref h0)]) hx hb dX5_firstFault_53 hl (k := 1) rfl (nI_add (i) 1) (by decide) rfl (fun ls hl => ?_)
              refine lv_goto (tgt := 7) hx hb dX5_firstFault_56 (by decide) ?_
              exact ih_7 en (i + 1) (by omega) (by omega) (by rw [← hF]; exact zFG_next (by omega) (by first | exact (zFit_lim (by omega)).mpr c_3 | exact (zFit_les (by omega)).mpr c_3) (by first | rw [if_pos (by omega)] | rw [if_neg (by omega)])) (by omega) ls (lv_sub hl [0, 2, 3] rfl)
            · skip
              have c_4 : codes i = 59 := (nI_eq (a := codes i) (b := 59) (by omega) (by omega)).mp c_4
              refine lv_iload_n hx hb dX5_firstFault_51 rfl (lv_at hl 1 rfl) ?_
              refine lv_istore_n (lv' := [(1, .int (nI i)), (3, .int 1), (2, .int (nI i)), (0, .ref h0)]) hx hb dX5_firstFault_52 rfl hl (by decide) rfl (fun ls hl => ?_)
              refine lv_iinc (v := nI (i + 1)) (lv' := [(2, .int (nI (i + 1))), (1, .int (nI i)), (3, .int 1), (0, .ref h0)]) hx hb dX5_firstFault_53 hl (k := 2) rfl (nI_add (i) 1) (by decide) rfl (fun ls hl => ?_)
              refine lv_goto (tgt := 7) hx hb dX5_firstFault_56 (by decide) ?_
              exact ih_7 i (i + 1) (by omega) (by omega) (by rw [← hF]; exact zFG_next (by omega) (by first | exact (zFit_lim (by omega)).mpr c_3 | exact (zFit_les (by omega)).mpr c_3) (by first | rw [if_pos (by omega)] | rw [if_neg (by omega)])) (by omega) ls (lv_sub hl [0, 1, 3] rfl)
          · skip
            refine lv_goto (tgt := 34) hx hb dX5_firstFault_26 (by decide) ?_
            refine lv_istore_n (lv' := [(3, .int 0), (2, .int (nI i)), (1, .int (nI en)), (0, .ref h0)]) hx hb dX5_firstFault_34 rfl hl (by decide) rfl (fun ls hl => ?_)
            refine lv_iload_n hx hb dX5_firstFault_35 rfl (lv_at hl 0 rfl) ?_
            refine lv_if_ne (tgt := 41) hx hb dX5_firstFault_36 (by decide) (fun c => absurd c (by decide)) (fun _ => ?_)
            refine lv_iload_n hx hb dX5_firstFault_39 rfl (lv_at hl 1 rfl) ?_
            exact hret _ _ _ dX5_firstFault_40 (by rw [← hF, zFG_stop (by omega) (by first | exact (not_congr (zFit_lim (by omega))).mpr c_3 | exact (not_congr (zFit_les (by omega))).mpr c_3)])
  exact loop_7 _ size 0 (Nat.zero_le _) (by omega) (rfl) (Nat.lt_succ_self _) ls hl

theorem zi_X5_isWhole_X5 : ∀ w ∈ wsX50, w ∈ wsX5_isWhole := fun _ h => List.mem_cons_of_mem _ (List.mem_append_right _ (h))
abbrev rm_X5_isWhole : Room := { frames := 5, cells := 0, slots := 0, locals := 110 }
set_option maxHeartbeats 4000000 in
set_option maxRecDepth 100000 in
theorem c_X5_isWhole (l : Launch) (D : va_G) (cI cB cP : ClassId) (h0 : Nat) (a1 : Nat) (size : Nat) (codes : Nat → Nat) (hs : size ≤ 18) (hc : ∀ i, codes i < 127)  : zPi l D cI cB cP yX5_isWhole wsX5_isWhole rm_X5_isWhole [.ref h0] ([(h0, .inr (5, [.ref a1, .int (nI size)])), (a1, .inl (cI, 18, .inl (fun q_ => nI (codes q_))))]) (fun r => zB (zFault codes size = size ∧ 2 ≤ size ∧ codes (size - 2) = 59) r) := by
  refine zPz_of (cc := cX5_isWhole) (maxL := 1) (by decide) rfl (Nat.le_of_ble_eq_true rfl) ?_
  intro p e s m args below meth c ls Q hx hb hml hts hown hP hK hN hl hret
  have hown : s.vm.findClass RX5 = some m.cls := hown
  have hl : lv_has ls 1 [(0, .ref h0)] := hl
  have hz : zFault codes size ≤ size := zFault_le _ _
  have e := z_at2 (codes := codes) hs hc
  refine lv_aload_n hx hb dX5_isWhole_0 rfl (lv_at hl 0 rfl) ?_
  refine vp_callSi (z_runV (b := h0) (As := []) (rest := []) hx hb hml hown hts hK hN hl.1 (c_X5_firstFault l D cI cB cP h0 a1 size codes (by first | assumption | omega) (by first | assumption | omega)) gX5_isWhole_X5_firstFault rfl zd_X5_firstFault rfl (Nat.le_of_ble_eq_true rfl) (Nat.le_of_ble_eq_true rfl) (va_P.sub (ws' := [(h0, .inr (5, [.ref a1, .int (nI size)])), (a1, .inl (cI, 18, .inl (fun q_ => nI (codes q_))))]) hP [0, 1] rfl) (va_recv hK hP (ci := 5) (q0 := 0) rfl rfl) rfl (Nat.le_of_ble_eq_true rfl) dX5_isWhole_1 ⟨Nat.zero_le _, Nat.zero_le _⟩) (fun r hr => ?_)
  subst hr
  refine lv_aload_n hx hb dX5_isWhole_4 rfl (lv_at hl 0 rfl) ?_
  refine va_get (D := D) (ci := 5) (v := .int (nI size)) (C := RX5) (T := TX5) (N := 2) hx hb hts zi_X5_isWhole_X5 hown hK hP 0 rfl rfl 1 (by decide) (hts (.fieldLink RX5 15 "BeatenInstead$Page" "size" "I") (List.mem_of_getElem? (i := 1) rfl)) (fun _ h9 => h9) rfl dX5_isWhole_5 ?_
  refine lv_icmp_ne (tgt := 30) hx hb dX5_isWhole_8 (by decide) (fun c_1 => ?_) (fun c_1 => ?_)
  · skip
    have c_1 : ¬ (zFault codes size = size) := (not_congr (nI_eq (a := zFault codes size) (b := size) (by omega) (by omega))).mp c_1
    refine lv_iconst (v := 0) hx hb dX5_isWhole_30 (by decide) ?_
    exact hret _ _ _ dX5_isWhole_31 rfl (zB.f (fun h => c_1 h.1))
  · skip
    have c_1 : zFault codes size = size := (nI_eq (a := zFault codes size) (b := size) (by omega) (by omega)).mp c_1
    refine lv_aload_n hx hb dX5_isWhole_11 rfl (lv_at hl 0 rfl) ?_
    refine lv_aload_n hx hb dX5_isWhole_12 rfl (lv_at hl 0 rfl) ?_
    refine va_get (D := D) (ci := 5) (v := .int (nI size)) (C := RX5) (T := TX5) (N := 2) hx hb hts zi_X5_isWhole_X5 hown hK hP 0 rfl rfl 1 (by decide) (hts (.fieldLink RX5 15 "BeatenInstead$Page" "size" "I") (List.mem_of_getElem? (i := 1) rfl)) (fun _ h9 => h9) rfl dX5_isWhole_13 ?_
    refine lv_iconst (v := 2) hx hb dX5_isWhole_16 (by decide) ?_
    refine lv_isub hx hb dX5_isWhole_17 ?_
    refine vp_callSi (z_runV (b := h0) (As := [.int ((nI size) - 2)]) (rest := []) hx hb hml hown hts hK hN hl.1 (c_X5_codeAt_i l D cI cB cP h0 a1 size codes ((nI size) - 2)) gX5_isWhole_X5_codeAt rfl zd_X5_codeAt rfl (Nat.le_of_ble_eq_true rfl) (Nat.le_of_ble_eq_true rfl) (va_P.sub (ws' := [(h0, .inr (5, [.ref a1, .int (nI size)])), (a1, .inl (cI, 18, .inl (fun q_ => nI (codes q_))))]) hP [0, 1] rfl) (va_recv hK hP (ci := 5) (q0 := 0) rfl rfl) rfl (Nat.le_of_ble_eq_true rfl) dX5_isWhole_18 ⟨Nat.zero_le _, Nat.zero_le _⟩) (fun r hr => ?_)
    subst hr
    refine lv_bipush (v := (59)) hx hb dX5_isWhole_21 (by decide) ?_
    refine lv_icmp_ne (tgt := 30) hx hb dX5_isWhole_23 (by decide) (fun c_2 => ?_) (fun c_2 => ?_)
    · skip
      refine lv_iconst (v := 0) hx hb dX5_isWhole_30 (by decide) ?_
      exact hret _ _ _ dX5_isWhole_31 rfl (zB.f (fun h => c_2 (e.mpr ⟨h.2.1, h.2.2⟩)))
    · skip
      refine lv_iconst (v := 1) hx hb dX5_isWhole_26 (by decide) ?_
      refine lv_goto (tgt := 31) hx hb dX5_isWhole_27 (by decide) ?_
      exact hret _ _ _ dX5_isWhole_31 rfl (zB.t ⟨c_1, (e.mp c_2).1, (e.mp c_2).2⟩)
