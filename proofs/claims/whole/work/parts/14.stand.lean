/-- which of n princes have learnt a lesson, as bits -/
def zWho (learnt : Nat → Nat) (k : Nat) : Nat → Nat | 0 => 0 | n + 1 => if learnt n / 2 ^ k % 2 = 1 then zWho learnt k n ||| 2 ^ n else zWho learnt k n
theorem z_or_lt : ∀ x, x < 32 → ∀ n, n < 5 → x ||| 2 ^ n < 32 := by decide +kernel
theorem zWho_lt {learnt : Nat → Nat} {k : Nat} : ∀ {n : Nat}, n ≤ 3 → zWho learnt k n < 32 := by
  intro n
  induction n with
  | zero => intro _; rw [zWho]; omega
  | succ n ih =>
    intro h
    have h1 := ih (by omega)
    rw [zWho]
    split
    · exact z_or_lt _ h1 n (by omega)
    · exact h1
def zPop (b : Nat) : Nat := b % 2 + b / 2 % 2 + b / 4 % 2 + b / 8 % 2 + b / 16 % 2
def zPops (learnt : Nat → Nat) : Nat → Nat | 0 => 0 | n + 1 => zPops learnt n + zPop (learnt n)
theorem zi_X8_fondOf_X8 : ∀ w ∈ wsX80, w ∈ wsX8_fondOf := fun _ h => List.mem_cons_of_mem _ (List.mem_append_right _ (h))
abbrev rm_X8_fondOf : Room := { frames := 1, cells := 0, slots := 0, locals := 21 }
set_option maxHeartbeats 4000000 in
set_option maxRecDepth 100000 in
theorem c_X8_fondOf (l : Launch) (D : va_G) (cI cB cP : ClassId) (h0 : Nat) (np : Nat) (a1 : Nat) (a2 : Nat) (a3 : Nat) (a4 : Nat) (nh : Nat) (a5 : Nat) (a6 : Nat) (a7 : Nat) (fond : Nat → Nat) (p_ : Nat) (b : Nat) (hp_ : p_ < 3) (hb_ : b < 3)  : zPi l D cI cB cP yX8_fondOf wsX8_fondOf rm_X8_fondOf [.ref h0, .int (nI p_), .int (nI b)] ([(h0, .inr (8, [.int (nI np), .ref a1, .ref a2, .ref a3, .ref a4, .int (nI nh), .ref a5, .ref a6, .ref a7])), (a1, .inl (cI, 9, .inl (fun q_ => nI (fond q_))))]) (fun r => r = nI (fond (p_ * 3 + b))) := by
  refine zPi_of (cc := cX8_fondOf) (maxL := 3) (by decide) rfl (Nat.le_of_ble_eq_true rfl) ?_
  intro p e s m args below meth c ls Q hx hb hml hts hown hP hK hN hl hret
  have hown : s.vm.findClass RX8 = some m.cls := hown
  have hl : lv_has ls 3 [(0, .ref h0), (1, .int (nI p_)), (2, .int (nI b))] := hl
  refine lv_aload_n hx hb dX8_fondOf_0 rfl (lv_at hl 0 rfl) ?_
  refine va_get (D := D) (ci := 8) (v := .ref a1) (C := RX8) (T := TX8) (N := 9) hx hb hts zi_X8_fondOf_X8 hown hK hP 0 rfl rfl 1 (by decide) (hts (.fieldLink RX8 15 "BeatenInstead$Standing" "fond" "[I") (List.mem_of_getElem? (i := 1) rfl)) (fun _ h9 => h9) rfl dX8_fondOf_1 ?_
  refine lv_iload_n hx hb dX8_fondOf_4 rfl (lv_at hl 1 rfl) ?_
  refine lv_iconst (v := 3) hx hb dX8_fondOf_5 (by decide) ?_
  refine lv_imul hx hb dX8_fondOf_6 ?_
  refine z_top (show ((nI p_) * 3) = nI (p_ * 3) from pk_mul p_ 3) ?_
  refine lv_iload_n hx hb dX8_fondOf_7 rfl (lv_at hl 2 rfl) ?_
  refine lv_iadd hx hb dX8_fondOf_8 ?_
  refine z_top (show ((nI (p_ * 3)) + (nI b)) = nI (p_ * 3 + b) from nI_add (p_ * 3) b) ?_
  refine vp_callSi (z_runSN (As := [.ref a1, .int (nI (p_ * 3 + b))]) (rest := []) hx hb hml hown hts hK hN hl.1 (c_X10_at_n l D cI cB cP a1 9 fond (p_ * 3 + b) (by first | assumption | omega) (by first | assumption | omega)) gX8_fondOf_X10_at_n60 rfl 37 rfl (List.mem_of_getElem? (i := 3) rfl) (List.mem_of_getElem? (i := 2) rfl) zd_X10_at rfl (Nat.le_of_ble_eq_true rfl) (Nat.le_of_ble_eq_true rfl) (va_P.sub (ws' := [(a1, .inl (cI, 9, .inl (fun q_ => nI (fond q_))))]) hP [1] rfl) rfl (Nat.le_of_ble_eq_true rfl) dX8_fondOf_9 ⟨Nat.zero_le _, Nat.zero_le _⟩) (fun r hr => ?_)
  subst hr
  exact hret _ _ _ dX8_fondOf_12 rfl

theorem zi_X8_boyOf_X8 : ∀ w ∈ wsX80, w ∈ wsX8_boyOf := fun _ h => List.mem_cons_of_mem _ (List.mem_append_right _ (h))
abbrev rm_X8_boyOf : Room := { frames := 1, cells := 0, slots := 0, locals := 21 }
set_option maxHeartbeats 4000000 in
set_option maxRecDepth 100000 in
theorem c_X8_boyOf (l : Launch) (D : va_G) (cI cB cP : ClassId) (h0 : Nat) (np : Nat) (a1 : Nat) (a2 : Nat) (a3 : Nat) (a4 : Nat) (nh : Nat) (a5 : Nat) (a6 : Nat) (a7 : Nat) (boys : Nat → Nat) (p_ : Nat) (hp_ : p_ < 3)  : zPi l D cI cB cP yX8_boyOf wsX8_boyOf rm_X8_boyOf [.ref h0, .int (nI p_)] ([(h0, .inr (8, [.int (nI np), .ref a1, .ref a2, .ref a3, .ref a4, .int (nI nh), .ref a5, .ref a6, .ref a7])), (a2, .inl (cI, 3, .inl (fun q_ => nI (boys q_))))]) (fun r => r = nI (boys p_)) := by
  refine zPi_of (cc := cX8_boyOf) (maxL := 2) (by decide) rfl (Nat.le_of_ble_eq_true rfl) ?_
  intro p e s m args below meth c ls Q hx hb hml hts hown hP hK hN hl hret
  have hown : s.vm.findClass RX8 = some m.cls := hown
  have hl : lv_has ls 2 [(0, .ref h0), (1, .int (nI p_))] := hl
  refine lv_aload_n hx hb dX8_boyOf_0 rfl (lv_at hl 0 rfl) ?_
  refine va_get (D := D) (ci := 8) (v := .ref a2) (C := RX8) (T := TX8) (N := 9) hx hb hts zi_X8_boyOf_X8 hown hK hP 0 rfl rfl 2 (by decide) (hts (.fieldLink RX8 19 "BeatenInstead$Standing" "boys" "[I") (List.mem_of_getElem? (i := 1) rfl)) (fun _ h9 => h9) rfl dX8_boyOf_1 ?_
  refine lv_iload_n hx hb dX8_boyOf_4 rfl (lv_at hl 1 rfl) ?_
  refine vp_callSi (z_runSN (As := [.ref a2, .int (nI p_)]) (rest := []) hx hb hml hown hts hK hN hl.1 (c_X10_at_n l D cI cB cP a2 3 boys p_ (by first | assumption | omega) (by first | assumption | omega)) gX8_boyOf_X10_at_n60 rfl 37 rfl (List.mem_of_getElem? (i := 3) rfl) (List.mem_of_getElem? (i := 2) rfl) zd_X10_at rfl (Nat.le_of_ble_eq_true rfl) (Nat.le_of_ble_eq_true rfl) (va_P.sub (ws' := [(a2, .inl (cI, 3, .inl (fun q_ => nI (boys q_))))]) hP [1] rfl) rfl (Nat.le_of_ble_eq_true rfl) dX8_boyOf_5 ⟨Nat.zero_le _, Nat.zero_le _⟩) (fun r hr => ?_)
  subst hr
  exact hret _ _ _ dX8_boyOf_8 rfl

theorem zi_X8_learntBy_X8 : ∀ w ∈ wsX80, w ∈ wsX8_learntBy := fun _ h => List.mem_cons_of_mem _ (List.mem_append_right _ (h))
abbrev rm_X8_learntBy : Room := { frames := 1, cells := 0, slots := 0, locals := 21 }
set_option maxHeartbeats 4000000 in
set_option maxRecDepth 100000 in
theorem c_X8_learntBy (l : Launch) (D : va_G) (cI cB cP : ClassId) (h0 : Nat) (np : Nat) (a1 : Nat) (a2 : Nat) (a3 : Nat) (a4 : Nat) (nh : Nat) (a5 : Nat) (a6 : Nat) (a7 : Nat) (learnt : Nat → Nat) (p_ : Nat) (hp_ : p_ < 3)  : zPi l D cI cB cP yX8_learntBy wsX8_learntBy rm_X8_learntBy [.ref h0, .int (nI p_)] ([(h0, .inr (8, [.int (nI np), .ref a1, .ref a2, .ref a3, .ref a4, .int (nI nh), .ref a5, .ref a6, .ref a7])), (a3, .inl (cI, 3, .inl (fun q_ => nI (learnt q_))))]) (fun r => r = nI (learnt p_)) := by
  refine zPi_of (cc := cX8_learntBy) (maxL := 2) (by decide) rfl (Nat.le_of_ble_eq_true rfl) ?_
  intro p e s m args below meth c ls Q hx hb hml hts hown hP hK hN hl hret
  have hown : s.vm.findClass RX8 = some m.cls := hown
  have hl : lv_has ls 2 [(0, .ref h0), (1, .int (nI p_))] := hl
  refine lv_aload_n hx hb dX8_learntBy_0 rfl (lv_at hl 0 rfl) ?_
  refine va_get (D := D) (ci := 8) (v := .ref a3) (C := RX8) (T := TX8) (N := 9) hx hb hts zi_X8_learntBy_X8 hown hK hP 0 rfl rfl 3 (by decide) (hts (.fieldLink RX8 22 "BeatenInstead$Standing" "learnt" "[I") (List.mem_of_getElem? (i := 1) rfl)) (fun _ h9 => h9) rfl dX8_learntBy_1 ?_
  refine lv_iload_n hx hb dX8_learntBy_4 rfl (lv_at hl 1 rfl) ?_
  refine vp_callSi (z_runSN (As := [.ref a3, .int (nI p_)]) (rest := []) hx hb hml hown hts hK hN hl.1 (c_X10_at_n l D cI cB cP a3 3 learnt p_ (by first | assumption | omega) (by first | assumption | omega)) gX8_learntBy_X10_at_n60 rfl 37 rfl (List.mem_of_getElem? (i := 3) rfl) (List.mem_of_getElem? (i := 2) rfl) zd_X10_at rfl (Nat.le_of_ble_eq_true rfl) (Nat.le_of_ble_eq_true rfl) (va_P.sub (ws' := [(a3, .inl (cI, 3, .inl (fun q_ => nI (learnt q_))))]) hP [1] rfl) rfl (Nat.le_of_ble_eq_true rfl) dX8_learntBy_5 ⟨Nat.zero_le _, Nat.zero_le _⟩) (fun r hr => ?_)
  subst hr
  exact hret _ _ _ dX8_learntBy_8 rfl

theorem zi_X8_stripesOf_X8 : ∀ w ∈ wsX80, w ∈ wsX8_stripesOf := fun _ h => List.mem_cons_of_mem _ (List.mem_append_right _ (h))
abbrev rm_X8_stripesOf : Room := { frames := 1, cells := 0, slots := 0, locals := 21 }
set_option maxHeartbeats 4000000 in
set_option maxRecDepth 100000 in
theorem c_X8_stripesOf (l : Launch) (D : va_G) (cI cB cP : ClassId) (h0 : Nat) (np : Nat) (a1 : Nat) (a2 : Nat) (a3 : Nat) (a4 : Nat) (nh : Nat) (a5 : Nat) (a6 : Nat) (a7 : Nat) (stripes : Nat → Int32) (b : Nat) (hb_ : b < 3)  : zPi l D cI cB cP yX8_stripesOf wsX8_stripesOf rm_X8_stripesOf [.ref h0, .int (nI b)] ([(h0, .inr (8, [.int (nI np), .ref a1, .ref a2, .ref a3, .ref a4, .int (nI nh), .ref a5, .ref a6, .ref a7])), (a4, .inl (cI, 3, .inl (stripes)))]) (fun r => r = stripes b) := by
  refine zPi_of (cc := cX8_stripesOf) (maxL := 2) (by decide) rfl (Nat.le_of_ble_eq_true rfl) ?_
  intro p e s m args below meth c ls Q hx hb hml hts hown hP hK hN hl hret
  have hown : s.vm.findClass RX8 = some m.cls := hown
  have hl : lv_has ls 2 [(0, .ref h0), (1, .int (nI b))] := hl
  refine lv_aload_n hx hb dX8_stripesOf_0 rfl (lv_at hl 0 rfl) ?_
  refine va_get (D := D) (ci := 8) (v := .ref a4) (C := RX8) (T := TX8) (N := 9) hx hb hts zi_X8_stripesOf_X8 hown hK hP 0 rfl rfl 4 (by decide) (hts (.fieldLink RX8 25 "BeatenInstead$Standing" "stripes" "[I") (List.mem_of_getElem? (i := 1) rfl)) (fun _ h9 => h9) rfl dX8_stripesOf_1 ?_
  refine lv_iload_n hx hb dX8_stripesOf_4 rfl (lv_at hl 1 rfl) ?_
  refine vp_callSi (z_runSN (As := [.ref a4, .int (nI b)]) (rest := []) hx hb hml hown hts hK hN hl.1 (c_X10_at_f l D cI cB cP a4 3 stripes b (by first | assumption | omega) (by first | assumption | omega)) gX8_stripesOf_X10_at_n60 rfl 37 rfl (List.mem_of_getElem? (i := 3) rfl) (List.mem_of_getElem? (i := 2) rfl) zd_X10_at rfl (Nat.le_of_ble_eq_true rfl) (Nat.le_of_ble_eq_true rfl) (va_P.sub (ws' := [(a4, .inl (cI, 3, .inl (stripes)))]) hP [1] rfl) rfl (Nat.le_of_ble_eq_true rfl) dX8_stripesOf_5 ⟨Nat.zero_le _, Nat.zero_le _⟩) (fun r hr => ?_)
  subst hr
  exact hret _ _ _ dX8_stripesOf_8 rfl

abbrev rm_X8_fondOfHisBoy : Room := { frames := 2, cells := 0, slots := 0, locals := 43 }
set_option maxHeartbeats 4000000 in
set_option maxRecDepth 100000 in
theorem c_X8_fondOfHisBoy (l : Launch) (D : va_G) (cI cB cP : ClassId) (h0 : Nat) (np : Nat) (a1 : Nat) (a2 : Nat) (a3 : Nat) (a4 : Nat) (nh : Nat) (a5 : Nat) (a6 : Nat) (a7 : Nat) (fond : Nat → Nat) (boys : Nat → Nat) (p_ : Nat) (hp_ : p_ < 3) (hby : boys p_ < 3)  : zPi l D cI cB cP yX8_fondOfHisBoy wsX8_fondOfHisBoy rm_X8_fondOfHisBoy [.ref h0, .int (nI p_)] ([(h0, .inr (8, [.int (nI np), .ref a1, .ref a2, .ref a3, .ref a4, .int (nI nh), .ref a5, .ref a6, .ref a7])), (a1, .inl (cI, 9, .inl (fun q_ => nI (fond q_)))), (a2, .inl (cI, 3, .inl (fun q_ => nI (boys q_))))]) (fun r => r = nI (fond (p_ * 3 + boys p_))) := by
  refine zPi_of (cc := cX8_fondOfHisBoy) (maxL := 2) (by decide) rfl (Nat.le_of_ble_eq_true rfl) ?_
  intro p e s m args below meth c ls Q hx hb hml hts hown hP hK hN hl hret
  have hown : s.vm.findClass RX8 = some m.cls := hown
  have hl : lv_has ls 2 [(0, .ref h0), (1, .int (nI p_))] := hl
  refine lv_aload_n hx hb dX8_fondOfHisBoy_0 rfl (lv_at hl 0 rfl) ?_
  refine lv_iload_n hx hb dX8_fondOfHisBoy_1 rfl (lv_at hl 1 rfl) ?_
  refine lv_aload_n hx hb dX8_fondOfHisBoy_2 rfl (lv_at hl 0 rfl) ?_
  refine lv_iload_n hx hb dX8_fondOfHisBoy_3 rfl (lv_at hl 1 rfl) ?_
  refine vp_callSi (z_runV (b := h0) (As := [.int (nI p_)]) (rest := [.int (nI p_), .ref h0]) hx hb hml hown hts hK hN hl.1 (c_X8_boyOf l D cI cB cP h0 np a1 a2 a3 a4 nh a5 a6 a7 boys p_ (by first | assumption | omega)) gX8_fondOfHisBoy_X8_boyOf rfl zd_X8_boyOf rfl (Nat.le_of_ble_eq_true rfl) (Nat.le_of_ble_eq_true rfl) (va_P.sub (ws' := [(h0, .inr (8, [.int (nI np), .ref a1, .ref a2, .ref a3, .ref a4, .int (nI nh), .ref a5, .ref a6, .ref a7])), (a2, .inl (cI, 3, .inl (fun q_ => nI (boys q_))))]) hP [0, 2] rfl) (va_recv hK hP (ci := 8) (q0 := 0) rfl rfl) rfl (Nat.le_of_ble_eq_true rfl) dX8_fondOfHisBoy_4 ⟨Nat.zero_le _, Nat.zero_le _⟩) (fun r hr => ?_)
  subst hr
  refine vp_callSi (z_runV (b := h0) (As := [.int (nI p_), .int (nI (boys p_))]) (rest := []) hx hb hml hown hts hK hN hl.1 (c_X8_fondOf l D cI cB cP h0 np a1 a2 a3 a4 nh a5 a6 a7 fond p_ (boys p_) (by first | assumption | omega) (by first | assumption | omega)) gX8_fondOfHisBoy_X8_fondOf rfl zd_X8_fondOf rfl (Nat.le_of_ble_eq_true rfl) (Nat.le_of_ble_eq_true rfl) (va_P.sub (ws' := [(h0, .inr (8, [.int (nI np), .ref a1, .ref a2, .ref a3, .ref a4, .int (nI nh), .ref a5, .ref a6, .ref a7])), (a1, .inl (cI, 9, .inl (fun q_ => nI (fond q_))))]) hP [0, 1] rfl) (va_recv hK hP (ci := 8) (q0 := 0) rfl rfl) rfl (Nat.le_of_ble_eq_true rfl) dX8_fondOfHisBoy_7 ⟨Nat.zero_le _, Nat.zero_le _⟩) (fun r hr => ?_)
  subst hr
  exact hret _ _ _ dX8_fondOfHisBoy_10 (by first | rfl | omega | (simp; omega) | simp_all)

theorem zi_X8_allStripes_X8 : ∀ w ∈ wsX80, w ∈ wsX8_allStripes := fun _ h => List.mem_cons_of_mem _ (List.mem_append_right _ (h))
abbrev rm_X8_allStripes : Room := { frames := 1, cells := 0, slots := 0, locals := 22 }
set_option maxHeartbeats 4000000 in
set_option maxRecDepth 100000 in
theorem c_X8_allStripes (l : Launch) (D : va_G) (cI cB cP : ClassId) (h0 : Nat) (np : Nat) (a1 : Nat) (a2 : Nat) (a3 : Nat) (a4 : Nat) (nh : Nat) (a5 : Nat) (a6 : Nat) (a7 : Nat) (stripes : Nat → Int32)   : zPi l D cI cB cP yX8_allStripes wsX8_allStripes rm_X8_allStripes [.ref h0] ([(h0, .inr (8, [.int (nI np), .ref a1, .ref a2, .ref a3, .ref a4, .int (nI nh), .ref a5, .ref a6, .ref a7])), (a4, .inl (cI, 3, .inl (stripes)))]) (fun r => r = zSum stripes 3) := by
  refine zPi_of (cc := cX8_allStripes) (maxL := 1) (by decide) rfl (Nat.le_of_ble_eq_true rfl) ?_
  intro p e s m args below meth c ls Q hx hb hml hts hown hP hK hN hl hret
  have hown : s.vm.findClass RX8 = some m.cls := hown
  have hl : lv_has ls 1 [(0, .ref h0)] := hl
  refine lv_aload_n hx hb dX8_allStripes_0 rfl (lv_at hl 0 rfl) ?_
  refine va_get (D := D) (ci := 8) (v := .ref a4) (C := RX8) (T := TX8) (N := 9) hx hb hts zi_X8_allStripes_X8 hown hK hP 0 rfl rfl 4 (by decide) (hts (.fieldLink RX8 25 "BeatenInstead$Standing" "stripes" "[I") (List.mem_of_getElem? (i := 1) rfl)) (fun _ h9 => h9) rfl dX8_allStripes_1 ?_
  refine vp_callSi (z_runSN (As := [.ref a4]) (rest := []) hx hb hml hown hts hK hN hl.1 (c_X10_sum l D cI cB cP a4 3 stripes (by first | assumption | omega)) gX8_allStripes_X10_sum_n72 rfl 73 rfl (List.mem_of_getElem? (i := 3) rfl) (List.mem_of_getElem? (i := 2) rfl) zd_X10_sum rfl (Nat.le_of_ble_eq_true rfl) (Nat.le_of_ble_eq_true rfl) (va_P.sub (ws' := [(a4, .inl (cI, 3, .inl (stripes)))]) hP [1] rfl) rfl (Nat.le_of_ble_eq_true rfl) dX8_allStripes_4 ⟨Nat.zero_le _, Nat.zero_le _⟩) (fun r hr => ?_)
  subst hr
  exact hret _ _ _ dX8_allStripes_7 rfl

theorem zi_X8_whoLearnt_X8 : ∀ w ∈ wsX80, w ∈ wsX8_whoLearnt := fun _ h => List.mem_cons_of_mem _ (List.mem_append_right _ (h))
abbrev rm_X8_whoLearnt : Room := { frames := 2, cells := 0, slots := 0, locals := 42 }
set_option maxHeartbeats 4000000 in
set_option maxRecDepth 100000 in
theorem c_X8_whoLearnt (l : Launch) (D : va_G) (cI cB cP : ClassId) (h0 : Nat) (np : Nat) (a1 : Nat) (a2 : Nat) (a3 : Nat) (a4 : Nat) (nh : Nat) (a5 : Nat) (a6 : Nat) (a7 : Nat) (learnt : Nat → Nat) (k : Nat) (hk : k < 5) (hnp : np ≤ 3) (hle : ∀ j, learnt j < 32)  : zPi l D cI cB cP yX8_whoLearnt wsX8_whoLearnt rm_X8_whoLearnt [.ref h0, .int (nI k)] ([(h0, .inr (8, [.int (nI np), .ref a1, .ref a2, .ref a3, .ref a4, .int (nI nh), .ref a5, .ref a6, .ref a7])), (a3, .inl (cI, 3, .inl (fun q_ => nI (learnt q_))))]) (fun r => r = nI (zWho learnt k np)) := by
  refine zPi_of (cc := cX8_whoLearnt) (maxL := 4) (by decide) rfl (Nat.le_of_ble_eq_true rfl) ?_
  intro p e s m args below meth c ls Q hx hb hml hts hown hP hK hN hl hret
  have hown : s.vm.findClass RX8 = some m.cls := hown
  have hl : lv_has ls 4 [(0, .ref h0), (1, .int (nI k))] := hl
  refine lv_iconst (v := 0) hx hb dX8_whoLearnt_0 (by decide) ?_
  refine lv_istore_n (lv' := [(2, .int 0), (0, .ref h0), (1, .int (nI k))]) hx hb dX8_whoLearnt_1 rfl hl (by decide) rfl (fun ls hl => ?_)
  refine lv_iconst (v := 0) hx hb dX8_whoLearnt_2 (by decide) ?_
  refine lv_istore_n (lv' := [(3, .int 0), (2, .int 0), (0, .ref h0), (1, .int (nI k))]) hx hb dX8_whoLearnt_3 rfl hl (by decide) rfl (fun ls hl => ?_)
  have loop_4 : ∀ (fu_4 : Nat) (x i : Nat), (i ≤ np) → (x = zWho learnt k i) → np - i < fu_4 → ∀ (ls : Array Slot), lv_has ls 4 [(3, .int (nI i)), (2, .int (nI x)), (0, .ref h0), (1, .int (nI k))] → W p l e rm_X8_whoLearnt s m args below meth c s.heap [] 0 0 Q (F0 m 4 ls []) := by
    intro fu_4
    induction fu_4 with
    | zero => intro x i hi hx1 hn_4; exact absurd hn_4 (by omega)
    | succ fu_4 ih_4 =>
      intro x i hi hx1 hn_4 ls hl
      have hlei := hle i
      have hx2 : x < 32 := by rw [hx1]; exact zWho_lt (by omega)
      refine lv_iload_n hx hb dX8_whoLearnt_4 rfl (lv_at hl 0 rfl) ?_
      refine lv_aload_n hx hb dX8_whoLearnt_5 rfl (lv_at hl 2 rfl) ?_
      refine va_get (D := D) (ci := 8) (v := .int (nI np)) (C := RX8) (T := TX8) (N := 9) hx hb hts zi_X8_whoLearnt_X8 hown hK hP 0 rfl rfl 0 (by decide) (hts (.fieldLink RX8 9 "BeatenInstead$Standing" "princes" "I") (List.mem_of_getElem? (i := 1) rfl)) (fun _ h9 => h9) rfl dX8_whoLearnt_6 ?_
      refine lv_icmp_ge (tgt := 36) hx hb dX8_whoLearnt_9 (by decide) (fun c_1 => ?_) (fun c_1 => ?_)
      · skip
        have c_1 : np ≤ i := (nI_leI (a := np) (b := i) (by omega) (by omega)).mp c_1
        refine lv_iload_n hx hb dX8_whoLearnt_36 rfl (lv_at hl 1 rfl) ?_
        exact hret _ _ _ dX8_whoLearnt_37 (by rw [hx1]; congr 2; omega)
      · skip
        have c_1 : ¬ (np ≤ i) := (not_congr (nI_leI (a := np) (b := i) (by omega) (by omega))).mp c_1
        refine lv_aload_n hx hb dX8_whoLearnt_12 rfl (lv_at hl 2 rfl) ?_
        refine lv_iload_n hx hb dX8_whoLearnt_13 rfl (lv_at hl 0 rfl) ?_
        refine vp_callSi (z_runV (b := h0) (As := [.int (nI i)]) (rest := []) hx hb hml hown hts hK hN hl.1 (c_X8_learntBy l D cI cB cP h0 np a1 a2 a3 a4 nh a5 a6 a7 learnt i (by first | assumption | omega)) gX8_whoLearnt_X8_learntBy rfl zd_X8_learntBy rfl (Nat.le_of_ble_eq_true rfl) (Nat.le_of_ble_eq_true rfl) (va_P.sub (ws' := [(h0, .inr (8, [.int (nI np), .ref a1, .ref a2, .ref a3, .ref a4, .int (nI nh), .ref a5, .ref a6, .ref a7])), (a3, .inl (cI, 3, .inl (fun q_ => nI (learnt q_))))]) hP [0, 1] rfl) (va_recv hK hP (ci := 8) (q0 := 0) rfl rfl) rfl (Nat.le_of_ble_eq_true rfl) dX8_whoLearnt_14 ⟨Nat.zero_le _, Nat.zero_le _⟩) (fun r hr => ?_)
        subst hr
        refine lv_iload_n hx hb dX8_whoLearnt_17 rfl (lv_at hl 3 rfl) ?_
        refine vp_callSi (z_runSN (As := [.int (nI (learnt i)), .int (nI k)]) (rest := []) hx hb hml hown hts hK hN hl.1 (c_X10_isIn l D cI cB cP (learnt i) k (by first | assumption | omega) (by first | assumption | omega)) gX8_whoLearnt_X10_isIn_n79 rfl 38 rfl (List.mem_of_getElem? (i := 9) rfl) (List.mem_of_getElem? (i := 11) rfl) zd_X10_isIn rfl (Nat.le_of_ble_eq_true rfl) (Nat.le_of_ble_eq_true rfl) z_p0 rfl (Nat.le_of_ble_eq_true rfl) dX8_whoLearnt_18 ⟨Nat.zero_le _, Nat.zero_le _⟩) (fun r hr => ?_)
        rcases hr with ⟨rfl, c_2⟩ | ⟨rfl, c_2⟩
        · skip
          refine lv_if_eq (tgt := 30) hx hb dX8_whoLearnt_21 (by decide) (fun c => absurd c (by decide)) (fun _ => ?_)
          refine lv_iload_n hx hb dX8_whoLearnt_24 rfl (lv_at hl 1 rfl) ?_
          refine lv_iconst (v := 1) hx hb dX8_whoLearnt_25 (by decide) ?_
          refine lv_iload_n hx hb dX8_whoLearnt_26 rfl (lv_at hl 0 rfl) ?_
          refine lv_ishl hx hb dX8_whoLearnt_27 ?_
          refine z_top (show (1 <<< ((nI i) &&& 31)) = nI (2 ^ i) from z_or10 i (by omega)) ?_
          refine lv_ior hx hb dX8_whoLearnt_28 ?_
          refine z_top (show ((nI x) ||| (nI (2 ^ i))) = nI (x ||| 2 ^ i) from z_orn x hx2 i (by omega)) ?_
          refine lv_istore_n (lv' := [(2, .int (nI (x ||| 2 ^ i))), (3, .int (nI i)), (0, .ref h0), (1, .int (nI k))]) hx hb dX8_whoLearnt_29 rfl hl (by decide) rfl (fun ls hl => ?_)
          refine lv_iinc (v := nI (i + 1)) (lv' := [(3, .int (nI (i + 1))), (2, .int (nI (x ||| 2 ^ i))), (0, .ref h0), (1, .int (nI k))]) hx hb dX8_whoLearnt_30 hl (k := 1) rfl (nI_add (i) 1) (by decide) rfl (fun ls hl => ?_)
          refine lv_goto (tgt := 4) hx hb dX8_whoLearnt_33 (by decide) ?_
          exact ih_4 (x ||| 2 ^ i) (i + 1) (by omega) (by rw [zWho, if_pos c_2, hx1]) (by omega) ls hl
        · skip
          refine lv_if_eq (tgt := 30) hx hb dX8_whoLearnt_21 (by decide) (fun _ => ?_) (fun c => absurd c (by decide))
          refine lv_iinc (v := nI (i + 1)) (lv' := [(3, .int (nI (i + 1))), (2, .int (nI x)), (0, .ref h0), (1, .int (nI k))]) hx hb dX8_whoLearnt_30 hl (k := 0) rfl (nI_add (i) 1) (by decide) rfl (fun ls hl => ?_)
          refine lv_goto (tgt := 4) hx hb dX8_whoLearnt_33 (by decide) ?_
          exact ih_4 x (i + 1) (by omega) (by rw [zWho, if_neg c_2, hx1]) (by omega) ls hl
  exact loop_4 _ 0 0 (Nat.zero_le _) (rfl) (Nat.lt_succ_self _) ls hl

abbrev rm_J6_bitCount : Room := { frames := 0, cells := 0, slots := 0, locals := 0 }
set_option maxHeartbeats 4000000 in
set_option maxRecDepth 100000 in
theorem c_J6_bitCount (l : Launch) (D : va_G) (cI cB cP : ClassId) (b : Nat) (hb1 : b < 32)  : zPi l D cI cB cP yJ6_bitCount_0f7a4 wsJ6_bitCount_0f7a4 rm_J6_bitCount [.int (nI b)] ([]) (fun r => r = nI (zPop b)) := by
  refine zPi_of (cc := cJ6_bitCount_0f7a4) (maxL := 1) (by decide) rfl (Nat.le_of_ble_eq_true rfl) ?_
  intro p e s m args below meth c ls Q hx hb hml hts hown hP hK hN hl hret
  have hown : s.vm.findClass RJ6 = some m.cls := hown
  have hl : lv_has ls 1 [(0, .int (nI b))] := hl
  refine lv_iload_n hx hb dJ6_bitCount_0f7a4_0 rfl (lv_at hl 0 rfl) ?_
  refine lv_iload_n hx hb dJ6_bitCount_0f7a4_1 rfl (lv_at hl 0 rfl) ?_
  refine lv_iconst (v := 1) hx hb dJ6_bitCount_0f7a4_2 (by decide) ?_
  refine lv_iushr (v := ((nI b).toUInt32 >>> ((1 : Int32).toUInt32 &&& Int32.toUInt32 31)).toInt32) hx hb dJ6_bitCount_0f7a4_3 rfl ?_
  refine lv_ldcw (v := 1431655765) hx hb hown (hts (.constant RJ6 265 (1431655765)) (List.mem_of_getElem? (i := 1) rfl)) dJ6_bitCount_0f7a4_4 ?_
  refine lv_iand hx hb dJ6_bitCount_0f7a4_7 ?_
  refine lv_isub hx hb dJ6_bitCount_0f7a4_8 ?_
  refine lv_topi (fun x1 ex1 => ?_)
  refine lv_istore_n (lv' := [(0, .int x1)]) hx hb dJ6_bitCount_0f7a4_9 rfl hl (by decide) rfl (fun ls hl => ?_)
  refine lv_iload_n hx hb dJ6_bitCount_0f7a4_10 rfl (lv_at hl 0 rfl) ?_
  refine lv_ldcw (v := 858993459) hx hb hown (hts (.constant RJ6 266 (858993459)) (List.mem_of_getElem? (i := 2) rfl)) dJ6_bitCount_0f7a4_11 ?_
  refine lv_iand hx hb dJ6_bitCount_0f7a4_14 ?_
  refine lv_iload_n hx hb dJ6_bitCount_0f7a4_15 rfl (lv_at hl 0 rfl) ?_
  refine lv_iconst (v := 2) hx hb dJ6_bitCount_0f7a4_16 (by decide) ?_
  refine lv_iushr (v := (x1.toUInt32 >>> ((2 : Int32).toUInt32 &&& Int32.toUInt32 31)).toInt32) hx hb dJ6_bitCount_0f7a4_17 rfl ?_
  refine lv_ldcw (v := 858993459) hx hb hown (hts (.constant RJ6 266 (858993459)) (List.mem_of_getElem? (i := 2) rfl)) dJ6_bitCount_0f7a4_18 ?_
  refine lv_iand hx hb dJ6_bitCount_0f7a4_21 ?_
  refine lv_iadd hx hb dJ6_bitCount_0f7a4_22 ?_
  refine lv_topi (fun x2 ex2 => ?_)
  refine lv_istore_n (lv' := [(0, .int x2)]) hx hb dJ6_bitCount_0f7a4_23 rfl hl (by decide) rfl (fun ls hl => ?_)
  refine lv_iload_n hx hb dJ6_bitCount_0f7a4_24 rfl (lv_at hl 0 rfl) ?_
  refine lv_iload_n hx hb dJ6_bitCount_0f7a4_25 rfl (lv_at hl 0 rfl) ?_
  refine lv_iconst (v := 4) hx hb dJ6_bitCount_0f7a4_26 (by decide) ?_
  refine lv_iushr (v := (x2.toUInt32 >>> ((4 : Int32).toUInt32 &&& Int32.toUInt32 31)).toInt32) hx hb dJ6_bitCount_0f7a4_27 rfl ?_
  refine lv_iadd hx hb dJ6_bitCount_0f7a4_28 ?_
  refine lv_ldcw (v := 252645135) hx hb hown (hts (.constant RJ6 267 (252645135)) (List.mem_of_getElem? (i := 3) rfl)) dJ6_bitCount_0f7a4_29 ?_
  refine lv_iand hx hb dJ6_bitCount_0f7a4_32 ?_
  refine lv_topi (fun x3 ex3 => ?_)
  refine lv_istore_n (lv' := [(0, .int x3)]) hx hb dJ6_bitCount_0f7a4_33 rfl hl (by decide) rfl (fun ls hl => ?_)
  refine lv_iload_n hx hb dJ6_bitCount_0f7a4_34 rfl (lv_at hl 0 rfl) ?_
  refine lv_iload_n hx hb dJ6_bitCount_0f7a4_35 rfl (lv_at hl 0 rfl) ?_
  refine lv_bipush (v := (8)) hx hb dJ6_bitCount_0f7a4_36 (by decide) ?_
  refine lv_iushr (v := (x3.toUInt32 >>> ((8 : Int32).toUInt32 &&& Int32.toUInt32 31)).toInt32) hx hb dJ6_bitCount_0f7a4_38 rfl ?_
  refine lv_iadd hx hb dJ6_bitCount_0f7a4_39 ?_
  refine lv_topi (fun x4 ex4 => ?_)
  refine lv_istore_n (lv' := [(0, .int x4)]) hx hb dJ6_bitCount_0f7a4_40 rfl hl (by decide) rfl (fun ls hl => ?_)
  refine lv_iload_n hx hb dJ6_bitCount_0f7a4_41 rfl (lv_at hl 0 rfl) ?_
  refine lv_iload_n hx hb dJ6_bitCount_0f7a4_42 rfl (lv_at hl 0 rfl) ?_
  refine lv_bipush (v := (16)) hx hb dJ6_bitCount_0f7a4_43 (by decide) ?_
  refine lv_iushr (v := (x4.toUInt32 >>> ((16 : Int32).toUInt32 &&& Int32.toUInt32 31)).toInt32) hx hb dJ6_bitCount_0f7a4_45 rfl ?_
  refine lv_iadd hx hb dJ6_bitCount_0f7a4_46 ?_
  refine lv_topi (fun x5 ex5 => ?_)
  refine lv_istore_n (lv' := [(0, .int x5)]) hx hb dJ6_bitCount_0f7a4_47 rfl hl (by decide) rfl (fun ls hl => ?_)
  refine lv_iload_n hx hb dJ6_bitCount_0f7a4_48 rfl (lv_at hl 0 rfl) ?_
  refine lv_bipush (v := (63)) hx hb dJ6_bitCount_0f7a4_49 (by decide) ?_
  refine lv_iand hx hb dJ6_bitCount_0f7a4_51 ?_
  exact hret _ _ _ dJ6_bitCount_0f7a4_52 (by subst ex5; subst ex4; subst ex3; subst ex2; subst ex1; exact (by decide +kernel : ∀ b, b < 32 → ((((((((nI b) - ((((nI b).toUInt32 >>> ((1 : Int32).toUInt32 &&& Int32.toUInt32 31)).toInt32) &&& 1431655765)) &&& 858993459) + (((((nI b) - ((((nI b).toUInt32 >>> ((1 : Int32).toUInt32 &&& Int32.toUInt32 31)).toInt32) &&& 1431655765)).toUInt32 >>> ((2 : Int32).toUInt32 &&& Int32.toUInt32 31)).toInt32) &&& 858993459)) + ((((((nI b) - ((((nI b).toUInt32 >>> ((1 : Int32).toUInt32 &&& Int32.toUInt32 31)).toInt32) &&& 1431655765)) &&& 858993459) + (((((nI b) - ((((nI b).toUInt32 >>> ((1 : Int32).toUInt32 &&& Int32.toUInt32 31)).toInt32) &&& 1431655765)).toUInt32 >>> ((2 : Int32).toUInt32 &&& Int32.toUInt32 31)).toInt32) &&& 858993459)).toUInt32 >>> ((4 : Int32).toUInt32 &&& Int32.toUInt32 31)).toInt32)) &&& 252645135) + ((((((((nI b) - ((((nI b).toUInt32 >>> ((1 : Int32).toUInt32 &&& Int32.toUInt32 31)).toInt32) &&& 1431655765)) &&& 858993459) + (((((nI b) - ((((nI b).toUInt32 >>> ((1 : Int32).toUInt32 &&& Int32.toUInt32 31)).toInt32) &&& 1431655765)).toUInt32 >>> ((2 : Int32).toUInt32 &&& Int32.toUInt32 31)).toInt32) &&& 858993459)) + ((((((nI b) - ((((nI b).toUInt32 >>> ((1 : Int32).toUInt32 &&& Int32.toUInt32 31)).toInt32) &&& 1431655765)) &&& 858993459) + (((((nI b) - ((((nI b).toUInt32 >>> ((1 : Int32).toUInt32 &&& Int32.toUInt32 31)).toInt32) &&& 1431655765)).toUInt32 >>> ((2 : Int32).toUInt32 &&& Int32.toUInt32 31)).toInt32) &&& 858993459)).toUInt32 >>> ((4 : Int32).toUInt32 &&& Int32.toUInt32 31)).toInt32)) &&& 252645135).toUInt32 >>> ((8 : Int32).toUInt32 &&& Int32.toUInt32 31)).toInt32)) + (((((((((nI b) - ((((nI b).toUInt32 >>> ((1 : Int32).toUInt32 &&& Int32.toUInt32 31)).toInt32) &&& 1431655765)) &&& 858993459) + (((((nI b) - ((((nI b).toUInt32 >>> ((1 : Int32).toUInt32 &&& Int32.toUInt32 31)).toInt32) &&& 1431655765)).toUInt32 >>> ((2 : Int32).toUInt32 &&& Int32.toUInt32 31)).toInt32) &&& 858993459)) + ((((((nI b) - ((((nI b).toUInt32 >>> ((1 : Int32).toUInt32 &&& Int32.toUInt32 31)).toInt32) &&& 1431655765)) &&& 858993459) + (((((nI b) - ((((nI b).toUInt32 >>> ((1 : Int32).toUInt32 &&& Int32.toUInt32 31)).toInt32) &&& 1431655765)).toUInt32 >>> ((2 : Int32).toUInt32 &&& Int32.toUInt32 31)).toInt32) &&& 858993459)).toUInt32 >>> ((4 : Int32).toUInt32 &&& Int32.toUInt32 31)).toInt32)) &&& 252645135) + ((((((((nI b) - ((((nI b).toUInt32 >>> ((1 : Int32).toUInt32 &&& Int32.toUInt32 31)).toInt32) &&& 1431655765)) &&& 858993459) + (((((nI b) - ((((nI b).toUInt32 >>> ((1 : Int32).toUInt32 &&& Int32.toUInt32 31)).toInt32) &&& 1431655765)).toUInt32 >>> ((2 : Int32).toUInt32 &&& Int32.toUInt32 31)).toInt32) &&& 858993459)) + ((((((nI b) - ((((nI b).toUInt32 >>> ((1 : Int32).toUInt32 &&& Int32.toUInt32 31)).toInt32) &&& 1431655765)) &&& 858993459) + (((((nI b) - ((((nI b).toUInt32 >>> ((1 : Int32).toUInt32 &&& Int32.toUInt32 31)).toInt32) &&& 1431655765)).toUInt32 >>> ((2 : Int32).toUInt32 &&& Int32.toUInt32 31)).toInt32) &&& 858993459)).toUInt32 >>> ((4 : Int32).toUInt32 &&& Int32.toUInt32 31)).toInt32)) &&& 252645135).toUInt32 >>> ((8 : Int32).toUInt32 &&& Int32.toUInt32 31)).toInt32)).toUInt32 >>> ((16 : Int32).toUInt32 &&& Int32.toUInt32 31)).toInt32)) &&& 63 = nI (zPop b)) b hb1)

theorem zi_X8_allLearnt_X8 : ∀ w ∈ wsX80, w ∈ wsX8_allLearnt := fun _ h => List.mem_cons_of_mem _ (List.mem_append_right _ (h))
abbrev rm_X8_allLearnt : Room := { frames := 2, cells := 0, slots := 0, locals := 42 }
set_option maxHeartbeats 4000000 in
set_option maxRecDepth 100000 in
theorem c_X8_allLearnt (l : Launch) (D : va_G) (cI cB cP : ClassId) (h0 : Nat) (np : Nat) (a1 : Nat) (a2 : Nat) (a3 : Nat) (a4 : Nat) (nh : Nat) (a5 : Nat) (a6 : Nat) (a7 : Nat) (learnt : Nat → Nat) (hnp : np ≤ 3) (hle : ∀ j, learnt j < 32)  : zPi l D cI cB cP yX8_allLearnt wsX8_allLearnt rm_X8_allLearnt [.ref h0] ([(h0, .inr (8, [.int (nI np), .ref a1, .ref a2, .ref a3, .ref a4, .int (nI nh), .ref a5, .ref a6, .ref a7])), (a3, .inl (cI, 3, .inl (fun q_ => nI (learnt q_))))]) (fun r => r = nI (zPops learnt np)) := by
  refine zPi_of (cc := cX8_allLearnt) (maxL := 3) (by decide) rfl (Nat.le_of_ble_eq_true rfl) ?_
  intro p e s m args below meth c ls Q hx hb hml hts hown hP hK hN hl hret
  have hown : s.vm.findClass RX8 = some m.cls := hown
  have hl : lv_has ls 3 [(0, .ref h0)] := hl
  refine lv_iconst (v := 0) hx hb dX8_allLearnt_0 (by decide) ?_
  refine lv_istore_n (lv' := [(1, .int 0), (0, .ref h0)]) hx hb dX8_allLearnt_1 rfl hl (by decide) rfl (fun ls hl => ?_)
  refine lv_iconst (v := 0) hx hb dX8_allLearnt_2 (by decide) ?_
  refine lv_istore_n (lv' := [(2, .int 0), (1, .int 0), (0, .ref h0)]) hx hb dX8_allLearnt_3 rfl hl (by decide) rfl (fun ls hl => ?_)
  have loop_4 : ∀ (fu_4 : Nat) (x i : Nat), (i ≤ np) → (x = zPops learnt i) → np - i < fu_4 → ∀ (ls : Array Slot), lv_has ls 3 [(2, .int (nI i)), (1, .int (nI x)), (0, .ref h0)] → W p l e rm_X8_allLearnt s m args below meth c s.heap [] 0 0 Q (F0 m 4 ls []) := by
    intro fu_4
    induction fu_4 with
    | zero => intro x i hi hx1 hn_4; exact absurd hn_4 (by omega)
    | succ fu_4 ih_4 =>
      intro x i hi hx1 hn_4 ls hl
      refine lv_iload_n hx hb dX8_allLearnt_4 rfl (lv_at hl 0 rfl) ?_
      refine lv_aload_n hx hb dX8_allLearnt_5 rfl (lv_at hl 2 rfl) ?_
      refine va_get (D := D) (ci := 8) (v := .int (nI np)) (C := RX8) (T := TX8) (N := 9) hx hb hts zi_X8_allLearnt_X8 hown hK hP 0 rfl rfl 0 (by decide) (hts (.fieldLink RX8 9 "BeatenInstead$Standing" "princes" "I") (List.mem_of_getElem? (i := 1) rfl)) (fun _ h9 => h9) rfl dX8_allLearnt_6 ?_
      refine lv_icmp_ge (tgt := 29) hx hb dX8_allLearnt_9 (by decide) (fun c_1 => ?_) (fun c_1 => ?_)
      · skip
        have c_1 : np ≤ i := (nI_leI (a := np) (b := i) (by omega) (by omega)).mp c_1
        refine lv_iload_n hx hb dX8_allLearnt_29 rfl (lv_at hl 1 rfl) ?_
        exact hret _ _ _ dX8_allLearnt_30 (by rw [hx1]; congr 2; omega)
      · skip
        have c_1 : ¬ (np ≤ i) := (not_congr (nI_leI (a := np) (b := i) (by omega) (by omega))).mp c_1
        refine lv_iload_n hx hb dX8_allLearnt_12 rfl (lv_at hl 1 rfl) ?_
        refine lv_aload_n hx hb dX8_allLearnt_13 rfl (lv_at hl 2 rfl) ?_
        refine lv_iload_n hx hb dX8_allLearnt_14 rfl (lv_at hl 0 rfl) ?_
        refine vp_callSi (z_runV (b := h0) (As := [.int (nI i)]) (rest := [.int (nI x)]) hx hb hml hown hts hK hN hl.1 (c_X8_learntBy l D cI cB cP h0 np a1 a2 a3 a4 nh a5 a6 a7 learnt i (by first | assumption | omega)) gX8_allLearnt_X8_learntBy rfl zd_X8_learntBy rfl (Nat.le_of_ble_eq_true rfl) (Nat.le_of_ble_eq_true rfl) (va_P.sub (ws' := [(h0, .inr (8, [.int (nI np), .ref a1, .ref a2, .ref a3, .ref a4, .int (nI nh), .ref a5, .ref a6, .ref a7])), (a3, .inl (cI, 3, .inl (fun q_ => nI (learnt q_))))]) hP [0, 1] rfl) (va_recv hK hP (ci := 8) (q0 := 0) rfl rfl) rfl (Nat.le_of_ble_eq_true rfl) dX8_allLearnt_15 ⟨Nat.zero_le _, Nat.zero_le _⟩) (fun r hr => ?_)
        subst hr
        refine vp_callSi (z_runS (As := [.int (nI (learnt i))]) (rest := [.int (nI x)]) hx hb hml hown hts hK hN hl.1 (c_J6_bitCount l D cI cB cP (learnt i) (hle _)) gX8_allLearnt_J6_bitCount_0f7a4 rfl zd_J6_bitCount_0f7a4 rfl (Nat.le_of_ble_eq_true rfl) (Nat.le_of_ble_eq_true rfl) z_p0 rfl (Nat.le_of_ble_eq_true rfl) dX8_allLearnt_18 ⟨Nat.zero_le _, Nat.zero_le _⟩) (fun r hr => ?_)
        subst hr
        refine lv_iadd hx hb dX8_allLearnt_21 ?_
        refine z_top (show ((nI x) + (nI (zPop (learnt i)))) = nI (x + zPop (learnt i)) from nI_add x (zPop (learnt i))) ?_
        refine lv_istore_n (lv' := [(1, .int (nI (x + zPop (learnt i)))), (2, .int (nI i)), (0, .ref h0)]) hx hb dX8_allLearnt_22 rfl hl (by decide) rfl (fun ls hl => ?_)
        refine lv_iinc (v := nI (i + 1)) (lv' := [(2, .int (nI (i + 1))), (1, .int (nI (x + zPop (learnt i)))), (0, .ref h0)]) hx hb dX8_allLearnt_23 hl (k := 1) rfl (nI_add (i) 1) (by decide) rfl (fun ls hl => ?_)
        refine lv_goto (tgt := 4) hx hb dX8_allLearnt_26 (by decide) ?_
        exact ih_4 (x + zPop (learnt i)) (i + 1) (by omega) (by rw [zPops, hx1]) (by omega) ls hl
  exact loop_4 _ 0 0 (Nat.zero_le _) (rfl) (Nat.lt_succ_self _) ls hl
