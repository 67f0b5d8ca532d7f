abbrev rm_X10_at : Room := { frames := 0, cells := 0, slots := 0, locals := 0 }
set_option maxHeartbeats 4000000 in
set_option maxRecDepth 100000 in
theorem c_X10_at (l : Launch) (D : va_G) (cI cB cP : ClassId) (a0 : Nat) (n : Nat) (f : Nat → Int32) (i : Int32) (hn : n < 2 ^ 31) : zPi l D cI cB cP yX10_at wsX10_at rm_X10_at [.ref a0, .int i] [(a0, .inl (cI, n, .inl (f)))] (fun r => r = zAt f n i) := by
  refine zPi_of (cc := cX10_at) (maxL := 2) (by decide) rfl (Nat.le_of_ble_eq_true rfl) ?_
  intro p e s m args below meth c ls Q hx hb hml hts hown hP hK hN hl hret
  have hown : s.vm.findClass RX10 = some m.cls := hown
  have hl : lv_has ls 2 [(0, .ref a0), (1, .int i)] := hl
  refine lv_iload_n hx hb dX10_at_0 rfl (lv_at hl 1 rfl) ?_
  refine lv_if_lt (tgt := 16) hx hb dX10_at_1 (by decide) (fun c_1 => ?_) (fun c_1 => ?_)
  · skip
    refine lv_iconst (v := 0) hx hb dX10_at_16 (by decide) ?_
    exact hret _ _ _ dX10_at_17 (by simp [zAt, *])
  · skip
    refine lv_iload_n hx hb dX10_at_4 rfl (lv_at hl 1 rfl) ?_
    refine lv_aload_n hx hb dX10_at_5 rfl (lv_at hl 0 rfl) ?_
    refine va_alen hx hb hK hP 0 0 rfl rfl (v := nI n) rfl dX10_at_6 ?_
    refine lv_icmp_ge (tgt := 16) hx hb dX10_at_7 (by decide) (fun c_2 => ?_) (fun c_2 => ?_)
    · skip
      refine lv_iconst (v := 0) hx hb dX10_at_16 (by decide) ?_
      exact hret _ _ _ dX10_at_17 (by simp [zAt, *])
    · skip
      refine lv_aload_n hx hb dX10_at_10 rfl (lv_at hl 0 rfl) ?_
      refine lv_iload_n hx hb dX10_at_11 rfl (lv_at hl 1 rfl) ?_
      refine va_iald hx hb hK hP 0 0 rfl rfl (z_in c_1 c_2 hn) dX10_at_12 ?_
      refine lv_goto (tgt := 17) hx hb dX10_at_13 (by decide) ?_
      exact hret _ _ _ dX10_at_17 (by simp [zAt, *])

abbrev rm_X10_at_n : Room := { frames := 0, cells := 0, slots := 0, locals := 0 }
set_option maxHeartbeats 4000000 in
set_option maxRecDepth 100000 in
theorem c_X10_at_n (l : Launch) (D : va_G) (cI cB cP : ClassId) (a0 : Nat) (n : Nat) (F : Nat → Nat) (k : Nat) (hn : n < 2 ^ 31) (hk : k < n) : zPi l D cI cB cP yX10_at wsX10_at rm_X10_at_n [.ref a0, .int (nI k)] [(a0, .inl (cI, n, .inl (fun i => nI (F i))))] (fun r => r = nI (F k)) := by
  refine zPi_of (cc := cX10_at) (maxL := 2) (by decide) rfl (Nat.le_of_ble_eq_true rfl) ?_
  intro p e s m args below meth c ls Q hx hb hml hts hown hP hK hN hl hret
  have hown : s.vm.findClass RX10 = some m.cls := hown
  have hl : lv_has ls 2 [(0, .ref a0), (1, .int (nI k))] := hl
  refine lv_iload_n hx hb dX10_at_0 rfl (lv_at hl 1 rfl) ?_
  refine lv_if_lt (tgt := 16) hx hb dX10_at_1 (by decide) (fun c => absurd c (nI_pos (by omega))) (fun _ => ?_)
  refine lv_iload_n hx hb dX10_at_4 rfl (lv_at hl 1 rfl) ?_
  refine lv_aload_n hx hb dX10_at_5 rfl (lv_at hl 0 rfl) ?_
  refine va_alen hx hb hK hP 0 0 rfl rfl (v := nI n) rfl dX10_at_6 ?_
  refine lv_icmp_ge (tgt := 16) hx hb dX10_at_7 (by decide) (fun c_2 => ?_) (fun c_2 => ?_)
  · skip
    have c_2 : n ≤ k := (nI_leI (a := n) (b := k) (by omega) (by omega)).mp c_2
    exact absurd hk (by omega)
  · skip
    have c_2 : ¬ (n ≤ k) := (not_congr (nI_leI (a := n) (b := k) (by omega) (by omega))).mp c_2
    refine lv_aload_n hx hb dX10_at_10 rfl (lv_at hl 0 rfl) ?_
    refine lv_iload_n hx hb dX10_at_11 rfl (lv_at hl 1 rfl) ?_
    refine va_iald hx hb hK hP 0 0 rfl rfl (vp_in_nI (by omega) (by omega)) dX10_at_12 ?_
    refine z_top (y := nI (F k)) (z_ld (f := fun i => nI (F i)) (a := k) (by omega) rfl) ?_
    refine lv_goto (tgt := 17) hx hb dX10_at_13 (by decide) ?_
    exact hret _ _ _ dX10_at_17 rfl

abbrev rm_X10_isBoy : Room := { frames := 0, cells := 0, slots := 0, locals := 0 }
set_option maxHeartbeats 4000000 in
set_option maxRecDepth 100000 in
theorem c_X10_isBoy (l : Launch) (D : va_G) (cI cB cP : ClassId) (b : Int32)  : zPi l D cI cB cP yX10_isBoy wsX10_isBoy rm_X10_isBoy [.int b] [] (fun r => zB (¬ b < 0 ∧ b < 3) r) := by
  refine zPz_of (cc := cX10_isBoy) (maxL := 1) (by decide) rfl (Nat.le_of_ble_eq_true rfl) ?_
  intro p e s m args below meth c ls Q hx hb hml hts hown hP hK hN hl hret
  have hown : s.vm.findClass RX10 = some m.cls := hown
  have hl : lv_has ls 1 [(0, .int b)] := hl
  refine lv_iload_n hx hb dX10_isBoy_0 rfl (lv_at hl 0 rfl) ?_
  refine lv_if_lt (tgt := 13) hx hb dX10_isBoy_1 (by decide) (fun c_1 => ?_) (fun c_1 => ?_)
  · skip
    refine lv_iconst (v := 0) hx hb dX10_isBoy_13 (by decide) ?_
    exact hret _ _ _ dX10_isBoy_14 rfl (zB.f (by first | assumption | omega | (simp; omega) | simp_all))
  · skip
    refine lv_iload_n hx hb dX10_isBoy_4 rfl (lv_at hl 0 rfl) ?_
    refine lv_iconst (v := 3) hx hb dX10_isBoy_5 (by decide) ?_
    refine lv_icmp_ge (tgt := 13) hx hb dX10_isBoy_6 (by decide) (fun c_2 => ?_) (fun c_2 => ?_)
    · skip
      refine lv_iconst (v := 0) hx hb dX10_isBoy_13 (by decide) ?_
      exact hret _ _ _ dX10_isBoy_14 rfl (zB.f (by first | assumption | omega | (simp; omega) | simp_all))
    · skip
      refine lv_iconst (v := 1) hx hb dX10_isBoy_9 (by decide) ?_
      refine lv_goto (tgt := 14) hx hb dX10_isBoy_10 (by decide) ?_
      exact hret _ _ _ dX10_isBoy_14 rfl (zB.t (by first | assumption | omega | (simp; omega) | simp_all))

abbrev rm_X10_isKind : Room := { frames := 0, cells := 0, slots := 0, locals := 0 }
set_option maxHeartbeats 4000000 in
set_option maxRecDepth 100000 in
theorem c_X10_isKind (l : Launch) (D : va_G) (cI cB cP : ClassId) (b : Int32)  : zPi l D cI cB cP yX10_isKind wsX10_isKind rm_X10_isKind [.int b] [] (fun r => zB (¬ b < 0 ∧ b ≤ 4) r) := by
  refine zPz_of (cc := cX10_isKind) (maxL := 1) (by decide) rfl (Nat.le_of_ble_eq_true rfl) ?_
  intro p e s m args below meth c ls Q hx hb hml hts hown hP hK hN hl hret
  have hown : s.vm.findClass RX10 = some m.cls := hown
  have hl : lv_has ls 1 [(0, .int b)] := hl
  refine lv_iload_n hx hb dX10_isKind_0 rfl (lv_at hl 0 rfl) ?_
  refine lv_if_lt (tgt := 13) hx hb dX10_isKind_1 (by decide) (fun c_1 => ?_) (fun c_1 => ?_)
  · skip
    refine lv_iconst (v := 0) hx hb dX10_isKind_13 (by decide) ?_
    exact hret _ _ _ dX10_isKind_14 rfl (zB.f (by first | assumption | omega | (simp; omega) | simp_all))
  · skip
    refine lv_iload_n hx hb dX10_isKind_4 rfl (lv_at hl 0 rfl) ?_
    refine lv_iconst (v := 4) hx hb dX10_isKind_5 (by decide) ?_
    refine lv_icmp_gt (tgt := 13) hx hb dX10_isKind_6 (by decide) (fun c_2 => ?_) (fun c_2 => ?_)
    · skip
      refine lv_iconst (v := 0) hx hb dX10_isKind_13 (by decide) ?_
      exact hret _ _ _ dX10_isKind_14 rfl (zB.f (by first | assumption | omega | (simp; omega) | simp_all))
    · skip
      refine lv_iconst (v := 1) hx hb dX10_isKind_9 (by decide) ?_
      refine lv_goto (tgt := 14) hx hb dX10_isKind_10 (by decide) ?_
      exact hret _ _ _ dX10_isKind_14 rfl (zB.t (by first | assumption | omega | (simp; omega) | simp_all))

theorem zi_X5_codeAt_X5 : ∀ w ∈ wsX50, w ∈ wsX5_codeAt := fun _ h => List.mem_cons_of_mem _ (List.mem_append_right _ (h))
abbrev rm_X5_codeAt : Room := { frames := 1, cells := 0, slots := 0, locals := 21 }
set_option maxHeartbeats 4000000 in
set_option maxRecDepth 100000 in
theorem c_X5_codeAt (l : Launch) (D : va_G) (cI cB cP : ClassId) (h0 : Nat) (a1 : Nat) (size : Nat) (codes : Nat → Nat) (k : Nat) (hk : k < 18) : zPi l D cI cB cP yX5_codeAt wsX5_codeAt rm_X5_codeAt [.ref h0, .int (nI k)] [(h0, .inr (5, [.ref a1, .int (nI size)])), (a1, .inl (cI, 18, .inl (fun i => nI (codes i))))] (fun r => r = nI (codes k)) := by
  refine zPi_of (cc := cX5_codeAt) (maxL := 2) (by decide) rfl (Nat.le_of_ble_eq_true rfl) ?_
  intro p e s m args below meth c ls Q hx hb hml hts hown hP hK hN hl hret
  have hown : s.vm.findClass RX5 = some m.cls := hown
  have hl : lv_has ls 2 [(0, .ref h0), (1, .int (nI k))] := hl
  refine lv_aload_n hx hb dX5_codeAt_0 rfl (lv_at hl 0 rfl) ?_
  refine va_get (D := D) (ci := 5) (v := .ref a1) (C := RX5) (T := TX5) (N := 2) hx hb hts zi_X5_codeAt_X5 hown hK hP 0 rfl rfl 0 (by decide) (hts (.fieldLink RX5 11 "BeatenInstead$Page" "codes" "[I") (List.mem_of_getElem? (i := 1) rfl)) (fun _ h9 => h9) rfl dX5_codeAt_1 ?_
  refine lv_iload_n hx hb dX5_codeAt_4 rfl (lv_at hl 1 rfl) ?_
  refine vp_callSi (z_runSN (As := [.ref a1, .int (nI k)]) (rest := []) hx hb hml hown hts hK hN hl.1 (c_X10_at_n l D cI cB cP a1 18 codes k (by first | assumption | omega) (by first | assumption | omega)) gX5_codeAt_X10_at_n23 rfl 25 rfl (List.mem_of_getElem? (i := 3) rfl) (List.mem_of_getElem? (i := 2) rfl) zd_X10_at rfl (Nat.le_of_ble_eq_true rfl) (Nat.le_of_ble_eq_true rfl) (va_P.sub (ws' := [(a1, .inl (cI, 18, .inl (fun i => nI (codes i))))]) hP [1] rfl) rfl (Nat.le_of_ble_eq_true rfl) dX5_codeAt_5 ⟨Nat.zero_le _, Nat.zero_le _⟩) (fun r hr => ?_)
  subst hr
  exact hret _ _ _ dX5_codeAt_8 rfl

abbrev rm_X5_codeAt_i : Room := { frames := 1, cells := 0, slots := 0, locals := 21 }
set_option maxHeartbeats 4000000 in
set_option maxRecDepth 100000 in
theorem c_X5_codeAt_i (l : Launch) (D : va_G) (cI cB cP : ClassId) (h0 : Nat) (a1 : Nat) (size : Nat) (codes : Nat → Nat) (i : Int32)  : zPi l D cI cB cP yX5_codeAt wsX5_codeAt rm_X5_codeAt_i [.ref h0, .int i] [(h0, .inr (5, [.ref a1, .int (nI size)])), (a1, .inl (cI, 18, .inl (fun i => nI (codes i))))] (fun r => r = zAt (fun i => nI (codes i)) 18 i) := by
  refine zPi_of (cc := cX5_codeAt) (maxL := 2) (by decide) rfl (Nat.le_of_ble_eq_true rfl) ?_
  intro p e s m args below meth c ls Q hx hb hml hts hown hP hK hN hl hret
  have hown : s.vm.findClass RX5 = some m.cls := hown
  have hl : lv_has ls 2 [(0, .ref h0), (1, .int i)] := hl
  refine lv_aload_n hx hb dX5_codeAt_0 rfl (lv_at hl 0 rfl) ?_
  refine va_get (D := D) (ci := 5) (v := .ref a1) (C := RX5) (T := TX5) (N := 2) hx hb hts zi_X5_codeAt_X5 hown hK hP 0 rfl rfl 0 (by decide) (hts (.fieldLink RX5 11 "BeatenInstead$Page" "codes" "[I") (List.mem_of_getElem? (i := 1) rfl)) (fun _ h9 => h9) rfl dX5_codeAt_1 ?_
  refine lv_iload_n hx hb dX5_codeAt_4 rfl (lv_at hl 1 rfl) ?_
  refine vp_callSi (z_runSN (As := [.ref a1, .int i]) (rest := []) hx hb hml hown hts hK hN hl.1 (c_X10_at l D cI cB cP a1 18 (fun i => nI (codes i)) i (by first | assumption | omega)) gX5_codeAt_X10_at_n23 rfl 25 rfl (List.mem_of_getElem? (i := 3) rfl) (List.mem_of_getElem? (i := 2) rfl) zd_X10_at rfl (Nat.le_of_ble_eq_true rfl) (Nat.le_of_ble_eq_true rfl) (va_P.sub (ws' := [(a1, .inl (cI, 18, .inl ((fun i => nI (codes i)))))]) hP [1] rfl) rfl (Nat.le_of_ble_eq_true rfl) dX5_codeAt_5 ⟨Nat.zero_le _, Nat.zero_le _⟩) (fun r hr => ?_)
  subst hr
  exact hret _ _ _ dX5_codeAt_8 rfl

abbrev rm_X5_digitAt : Room := { frames := 2, cells := 0, slots := 0, locals := 42 }
set_option maxHeartbeats 4000000 in
set_option maxRecDepth 100000 in
theorem c_X5_digitAt (l : Launch) (D : va_G) (cI cB cP : ClassId) (h0 : Nat) (a1 : Nat) (size : Nat) (codes : Nat → Nat) (k : Nat) (hk : k < 18) : zPi l D cI cB cP yX5_digitAt wsX5_digitAt rm_X5_digitAt [.ref h0, .int (nI k)] [(h0, .inr (5, [.ref a1, .int (nI size)])), (a1, .inl (cI, 18, .inl (fun i => nI (codes i))))] (fun r => r = nI (codes k) - 48) := by
  refine zPi_of (cc := cX5_digitAt) (maxL := 2) (by decide) rfl (Nat.le_of_ble_eq_true rfl) ?_
  intro p e s m args below meth c ls Q hx hb hml hts hown hP hK hN hl hret
  have hown : s.vm.findClass RX5 = some m.cls := hown
  have hl : lv_has ls 2 [(0, .ref h0), (1, .int (nI k))] := hl
  refine lv_aload_n hx hb dX5_digitAt_0 rfl (lv_at hl 0 rfl) ?_
  refine lv_iload_n hx hb dX5_digitAt_1 rfl (lv_at hl 1 rfl) ?_
  refine vp_callSi (z_runV (b := h0) (As := [.int (nI k)]) (ci := 5) (rest := []) hx hb hml hown hts hK hN hl.1 (c_X5_codeAt l D cI cB cP h0 a1 size codes k (by first | assumption | omega)) gX5_digitAt_X5_codeAt rfl zd_X5_codeAt rfl (Nat.le_of_ble_eq_true rfl) (Nat.le_of_ble_eq_true rfl) (va_P.sub (ws' := [(h0, .inr (5, [.ref a1, .int (nI size)])), (a1, .inl (cI, 18, .inl (fun i => nI (codes i))))]) hP [0, 1] rfl) rfl rfl rfl (Nat.le_of_ble_eq_true rfl) dX5_digitAt_2 ⟨Nat.zero_le _, Nat.zero_le _⟩) (fun r hr => ?_)
  subst hr
  refine lv_bipush (v := (48)) hx hb dX5_digitAt_5 (by decide) ?_
  refine lv_isub hx hb dX5_digitAt_7 ?_
  exact hret _ _ _ dX5_digitAt_8 (by first | rfl | omega | (simp; omega) | simp_all)

abbrev rm_X5_isDigit : Room := { frames := 3, cells := 0, slots := 0, locals := 63 }
set_option maxHeartbeats 4000000 in
set_option maxRecDepth 100000 in
theorem c_X5_isDigit (l : Launch) (D : va_G) (cI cB cP : ClassId) (h0 : Nat) (a1 : Nat) (size : Nat) (codes : Nat → Nat) (k : Nat) (lo : Nat) (hi : Nat) (hk : k < 18) (hlo : lo < 10) (hhi : hi < 10) (hc : codes k < 127) : zPi l D cI cB cP yX5_isDigit wsX5_isDigit rm_X5_isDigit [.ref h0, .int (nI k), .int (nI lo), .int (nI hi)] [(h0, .inr (5, [.ref a1, .int (nI size)])), (a1, .inl (cI, 18, .inl (fun i => nI (codes i))))] (fun r => zB (lo + 48 ≤ codes k ∧ codes k ≤ hi + 48) r) := by
  refine zPz_of (cc := cX5_isDigit) (maxL := 4) (by decide) rfl (Nat.le_of_ble_eq_true rfl) ?_
  intro p e s m args below meth c ls Q hx hb hml hts hown hP hK hN hl hret
  have hown : s.vm.findClass RX5 = some m.cls := hown
  have hl : lv_has ls 4 [(0, .ref h0), (1, .int (nI k)), (2, .int (nI lo)), (3, .int (nI hi))] := hl
  refine lv_aload_n hx hb dX5_isDigit_0 rfl (lv_at hl 0 rfl) ?_
  refine lv_iload_n hx hb dX5_isDigit_1 rfl (lv_at hl 1 rfl) ?_
  refine vp_callSi (z_runV (b := h0) (As := [.int (nI k)]) (ci := 5) (rest := []) hx hb hml hown hts hK hN hl.1 (c_X5_digitAt l D cI cB cP h0 a1 size codes k (by first | assumption | omega)) gX5_isDigit_X5_digitAt rfl zd_X5_digitAt rfl (Nat.le_of_ble_eq_true rfl) (Nat.le_of_ble_eq_true rfl) (va_P.sub (ws' := [(h0, .inr (5, [.ref a1, .int (nI size)])), (a1, .inl (cI, 18, .inl (fun i => nI (codes i))))]) hP [0, 1] rfl) rfl rfl rfl (Nat.le_of_ble_eq_true rfl) dX5_isDigit_2 ⟨Nat.zero_le _, Nat.zero_le _⟩) (fun r hr => ?_)
  subst hr
  refine lv_iload_n hx hb dX5_isDigit_5 rfl (lv_at hl 2 rfl) ?_
  refine lv_icmp_lt (tgt := 22) hx hb dX5_isDigit_6 (by decide) (fun c_1 => ?_) (fun c_1 => ?_)
  · skip
    refine lv_iconst (v := 0) hx hb dX5_isDigit_22 (by decide) ?_
    exact hret _ _ _ dX5_isDigit_23 rfl (zB.f (by have e1 := z_slt (a := codes k) (b := 48) (k := lo) (by omega) (by omega) (by omega); have e2 := z_sgt (a := codes k) (b := 48) (k := hi) (by omega) (by omega) (by omega); first | (have := e1.mp c_1; omega) | (have h1 := (not_congr e1).mp c_1; first | (have := e2.mp c_2; omega) | (have := (not_congr e2).mp c_2; omega))))
  · skip
    refine lv_aload_n hx hb dX5_isDigit_9 rfl (lv_at hl 0 rfl) ?_
    refine lv_iload_n hx hb dX5_isDigit_10 rfl (lv_at hl 1 rfl) ?_
    refine vp_callSi (z_runV (b := h0) (As := [.int (nI k)]) (ci := 5) (rest := []) hx hb hml hown hts hK hN hl.1 (c_X5_digitAt l D cI cB cP h0 a1 size codes k (by first | assumption | omega)) gX5_isDigit_X5_digitAt rfl zd_X5_digitAt rfl (Nat.le_of_ble_eq_true rfl) (Nat.le_of_ble_eq_true rfl) (va_P.sub (ws' := [(h0, .inr (5, [.ref a1, .int (nI size)])), (a1, .inl (cI, 18, .inl (fun i => nI (codes i))))]) hP [0, 1] rfl) rfl rfl rfl (Nat.le_of_ble_eq_true rfl) dX5_isDigit_11 ⟨Nat.zero_le _, Nat.zero_le _⟩) (fun r hr => ?_)
    subst hr
    refine lv_iload_n hx hb dX5_isDigit_14 rfl (lv_at hl 3 rfl) ?_
    refine lv_icmp_gt (tgt := 22) hx hb dX5_isDigit_15 (by decide) (fun c_2 => ?_) (fun c_2 => ?_)
    · skip
      refine lv_iconst (v := 0) hx hb dX5_isDigit_22 (by decide) ?_
      exact hret _ _ _ dX5_isDigit_23 rfl (zB.f (by have e1 := z_slt (a := codes k) (b := 48) (k := lo) (by omega) (by omega) (by omega); have e2 := z_sgt (a := codes k) (b := 48) (k := hi) (by omega) (by omega) (by omega); first | (have := e1.mp c_1; omega) | (have h1 := (not_congr e1).mp c_1; first | (have := e2.mp c_2; omega) | (have := (not_congr e2).mp c_2; omega))))
    · skip
      refine lv_iconst (v := 1) hx hb dX5_isDigit_18 (by decide) ?_
      refine lv_goto (tgt := 23) hx hb dX5_isDigit_19 (by decide) ?_
      exact hret _ _ _ dX5_isDigit_23 rfl (zB.t (by have e1 := z_slt (a := codes k) (b := 48) (k := lo) (by omega) (by omega) (by omega); have e2 := z_sgt (a := codes k) (b := 48) (k := hi) (by omega) (by omega) (by omega); first | (have := e1.mp c_1; omega) | (have h1 := (not_congr e1).mp c_1; first | (have := e2.mp c_2; omega) | (have := (not_congr e2).mp c_2; omega))))
