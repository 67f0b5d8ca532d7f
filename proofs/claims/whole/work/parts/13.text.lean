theorem zi_X9_isRead_X9 : ∀ w ∈ wsX90, w ∈ wsX9_isRead := fun _ h => List.mem_cons_of_mem _ (List.mem_append_right _ (h))
abbrev rm_X9_isRead : Room := { frames := 0, cells := 0, slots := 0, locals := 0 }
set_option maxHeartbeats 4000000 in
set_option maxRecDepth 100000 in
theorem c_X9_isRead (l : Launch) (D : va_G) (cI cB cP : ClassId) (h0 : Nat) (a1 : Nat) (a2 : Nat) (lessons : Nat) (limit : Nat) (hl0 : lessons ≤ 5)  : zPi l D cI cB cP yX9_isRead wsX9_isRead rm_X9_isRead [.ref h0] ([(h0, .inr (9, [.ref a1, .ref a2, .int (nI lessons), .int (nI limit)]))]) (fun r => zB (0 < lessons) r) := by
  refine zPz_of (cc := cX9_isRead) (maxL := 1) (by decide) rfl (Nat.le_of_ble_eq_true rfl) ?_
  intro p e s m args below meth c ls Q hx hb hml hts hown hP hK hN hl hret
  have hown : s.vm.findClass RX9 = some m.cls := hown
  have hl : lv_has ls 1 [(0, .ref h0)] := hl
  refine lv_aload_n hx hb dX9_isRead_0 rfl (lv_at hl 0 rfl) ?_
  refine va_get (D := D) (ci := 9) (v := .int (nI lessons)) (C := RX9) (T := TX9) (N := 4) hx hb hts zi_X9_isRead_X9 hown hK hP 0 rfl rfl 2 (by decide) (hts (.fieldLink RX9 18 "BeatenInstead$Text" "lessons" "I") (List.mem_of_getElem? (i := 1) rfl)) (fun _ h9 => h9) rfl dX9_isRead_1 ?_
  refine lv_if_le (tgt := 11) hx hb dX9_isRead_4 (by decide) (fun c_1 => ?_) (fun c_1 => ?_)
  · skip
    have c_1 : lessons ≤ 0 := (nI_leI (a := lessons) (b := 0) (by omega) (by omega)).mp c_1
    refine lv_iconst (v := 0) hx hb dX9_isRead_11 (by decide) ?_
    exact hret _ _ _ dX9_isRead_12 rfl (zB.f (by omega))
  · skip
    have c_1 : ¬ (lessons ≤ 0) := (not_congr (nI_leI (a := lessons) (b := 0) (by omega) (by omega))).mp c_1
    refine lv_iconst (v := 1) hx hb dX9_isRead_7 (by decide) ?_
    refine lv_goto (tgt := 12) hx hb dX9_isRead_8 (by decide) ?_
    exact hret _ _ _ dX9_isRead_12 rfl (zB.t (by omega))

theorem zi_X9_has_X9 : ∀ w ∈ wsX90, w ∈ wsX9_has := fun _ h => List.mem_cons_of_mem _ (List.mem_append_right _ (h))
abbrev rm_X9_has : Room := { frames := 0, cells := 0, slots := 0, locals := 0 }
set_option maxHeartbeats 4000000 in
set_option maxRecDepth 100000 in
theorem c_X9_has (l : Launch) (D : va_G) (cI cB cP : ClassId) (h0 : Nat) (a1 : Nat) (a2 : Nat) (lessons : Nat) (limit : Nat) (i : Int32)   : zPi l D cI cB cP yX9_has wsX9_has rm_X9_has [.ref h0, .int i] ([(h0, .inr (9, [.ref a1, .ref a2, .int (nI lessons), .int (nI limit)]))]) (fun r => zB (¬ i < 0 ∧ i < nI lessons) r) := by
  refine zPz_of (cc := cX9_has) (maxL := 2) (by decide) rfl (Nat.le_of_ble_eq_true rfl) ?_
  intro p e s m args below meth c ls Q hx hb hml hts hown hP hK hN hl hret
  have hown : s.vm.findClass RX9 = some m.cls := hown
  have hl : lv_has ls 2 [(0, .ref h0), (1, .int i)] := hl
  refine lv_iload_n hx hb dX9_has_0 rfl (lv_at hl 1 rfl) ?_
  refine lv_if_lt (tgt := 16) hx hb dX9_has_1 (by decide) (fun c_1 => ?_) (fun c_1 => ?_)
  · skip
    refine lv_iconst (v := 0) hx hb dX9_has_16 (by decide) ?_
    exact hret _ _ _ dX9_has_17 rfl (zB.f (by first | assumption | omega | (simp; omega) | simp_all))
  · skip
    refine lv_iload_n hx hb dX9_has_4 rfl (lv_at hl 1 rfl) ?_
    refine lv_aload_n hx hb dX9_has_5 rfl (lv_at hl 0 rfl) ?_
    refine va_get (D := D) (ci := 9) (v := .int (nI lessons)) (C := RX9) (T := TX9) (N := 4) hx hb hts zi_X9_has_X9 hown hK hP 0 rfl rfl 2 (by decide) (hts (.fieldLink RX9 18 "BeatenInstead$Text" "lessons" "I") (List.mem_of_getElem? (i := 1) rfl)) (fun _ h9 => h9) rfl dX9_has_6 ?_
    refine lv_icmp_ge (tgt := 16) hx hb dX9_has_9 (by decide) (fun c_2 => ?_) (fun c_2 => ?_)
    · skip
      refine lv_iconst (v := 0) hx hb dX9_has_16 (by decide) ?_
      exact hret _ _ _ dX9_has_17 rfl (zB.f (by first | assumption | omega | (simp; omega) | simp_all))
    · skip
      refine lv_iconst (v := 1) hx hb dX9_has_12 (by decide) ?_
      refine lv_goto (tgt := 17) hx hb dX9_has_13 (by decide) ?_
      exact hret _ _ _ dX9_has_17 rfl (zB.t (by first | assumption | omega | (simp; omega) | simp_all))

theorem zi_X9_hardOf_X9 : ∀ w ∈ wsX90, w ∈ wsX9_hardOf := fun _ h => List.mem_cons_of_mem _ (List.mem_append_right _ (h))
abbrev rm_X9_hardOf : Room := { frames := 1, cells := 0, slots := 0, locals := 21 }
set_option maxHeartbeats 4000000 in
set_option maxRecDepth 100000 in
theorem c_X9_hardOf (l : Launch) (D : va_G) (cI cB cP : ClassId) (h0 : Nat) (a1 : Nat) (a2 : Nat) (lessons : Nat) (limit : Nat) (hard : Nat → Nat) (k : Nat) (hk : k < 5)  : zPi l D cI cB cP yX9_hardOf wsX9_hardOf rm_X9_hardOf [.ref h0, .int (nI k)] ([(h0, .inr (9, [.ref a1, .ref a2, .int (nI lessons), .int (nI limit)])), (a1, .inl (cI, 5, .inl (fun q_ => nI (hard q_))))]) (fun r => r = nI (hard k)) := by
  refine zPi_of (cc := cX9_hardOf) (maxL := 2) (by decide) rfl (Nat.le_of_ble_eq_true rfl) ?_
  intro p e s m args below meth c ls Q hx hb hml hts hown hP hK hN hl hret
  have hown : s.vm.findClass RX9 = some m.cls := hown
  have hl : lv_has ls 2 [(0, .ref h0), (1, .int (nI k))] := hl
  refine lv_aload_n hx hb dX9_hardOf_0 rfl (lv_at hl 0 rfl) ?_
  refine va_get (D := D) (ci := 9) (v := .ref a1) (C := RX9) (T := TX9) (N := 4) hx hb hts zi_X9_hardOf_X9 hown hK hP 0 rfl rfl 0 (by decide) (hts (.fieldLink RX9 9 "BeatenInstead$Text" "hard" "[I") (List.mem_of_getElem? (i := 1) rfl)) (fun _ h9 => h9) rfl dX9_hardOf_1 ?_
  refine lv_iload_n hx hb dX9_hardOf_4 rfl (lv_at hl 1 rfl) ?_
  refine vp_callSi (z_runSN (As := [.ref a1, .int (nI k)]) (rest := []) hx hb hml hown hts hK hN hl.1 (c_X10_at_n l D cI cB cP a1 5 hard k (by first | assumption | omega) (by first | assumption | omega)) gX9_hardOf_X10_at_n38 rfl 34 rfl (List.mem_of_getElem? (i := 3) rfl) (List.mem_of_getElem? (i := 2) rfl) zd_X10_at rfl (Nat.le_of_ble_eq_true rfl) (Nat.le_of_ble_eq_true rfl) (va_P.sub (ws' := [(a1, .inl (cI, 5, .inl (fun q_ => nI (hard q_))))]) hP [1] rfl) rfl (Nat.le_of_ble_eq_true rfl) dX9_hardOf_5 ⟨Nat.zero_le _, Nat.zero_le _⟩) (fun r hr => ?_)
  subst hr
  exact hret _ _ _ dX9_hardOf_8 rfl

theorem zi_X9_blowsOf_X9 : ∀ w ∈ wsX90, w ∈ wsX9_blowsOf := fun _ h => List.mem_cons_of_mem _ (List.mem_append_right _ (h))
abbrev rm_X9_blowsOf : Room := { frames := 1, cells := 0, slots := 0, locals := 21 }
set_option maxHeartbeats 4000000 in
set_option maxRecDepth 100000 in
theorem c_X9_blowsOf (l : Launch) (D : va_G) (cI cB cP : ClassId) (h0 : Nat) (a1 : Nat) (a2 : Nat) (lessons : Nat) (limit : Nat) (blows : Nat → Nat) (k : Nat) (hk : k < 5)  : zPi l D cI cB cP yX9_blowsOf wsX9_blowsOf rm_X9_blowsOf [.ref h0, .int (nI k)] ([(h0, .inr (9, [.ref a1, .ref a2, .int (nI lessons), .int (nI limit)])), (a2, .inl (cI, 5, .inl (fun q_ => nI (blows q_))))]) (fun r => r = nI (blows k)) := by
  refine zPi_of (cc := cX9_blowsOf) (maxL := 2) (by decide) rfl (Nat.le_of_ble_eq_true rfl) ?_
  intro p e s m args below meth c ls Q hx hb hml hts hown hP hK hN hl hret
  have hown : s.vm.findClass RX9 = some m.cls := hown
  have hl : lv_has ls 2 [(0, .ref h0), (1, .int (nI k))] := hl
  refine lv_aload_n hx hb dX9_blowsOf_0 rfl (lv_at hl 0 rfl) ?_
  refine va_get (D := D) (ci := 9) (v := .ref a2) (C := RX9) (T := TX9) (N := 4) hx hb hts zi_X9_blowsOf_X9 hown hK hP 0 rfl rfl 1 (by decide) (hts (.fieldLink RX9 15 "BeatenInstead$Text" "blows" "[I") (List.mem_of_getElem? (i := 1) rfl)) (fun _ h9 => h9) rfl dX9_blowsOf_1 ?_
  refine lv_iload_n hx hb dX9_blowsOf_4 rfl (lv_at hl 1 rfl) ?_
  refine vp_callSi (z_runSN (As := [.ref a2, .int (nI k)]) (rest := []) hx hb hml hown hts hK hN hl.1 (c_X10_at_n l D cI cB cP a2 5 blows k (by first | assumption | omega) (by first | assumption | omega)) gX9_blowsOf_X10_at_n38 rfl 34 rfl (List.mem_of_getElem? (i := 3) rfl) (List.mem_of_getElem? (i := 2) rfl) zd_X10_at rfl (Nat.le_of_ble_eq_true rfl) (Nat.le_of_ble_eq_true rfl) (va_P.sub (ws' := [(a2, .inl (cI, 5, .inl (fun q_ => nI (blows q_))))]) hP [1] rfl) rfl (Nat.le_of_ble_eq_true rfl) dX9_blowsOf_5 ⟨Nat.zero_le _, Nat.zero_le _⟩) (fun r hr => ?_)
  subst hr
  exact hret _ _ _ dX9_blowsOf_8 rfl

theorem zi_X9_tenthsFor_X1 : ∀ w ∈ wsX10, w ∈ wsX9_tenthsFor := fun _ h => List.mem_cons_of_mem _ (List.mem_append_left _ (List.mem_append_left _ (List.mem_append_left _ (List.mem_append_left _ (List.mem_append_left _ (List.mem_append_right _ (h)))))))
theorem zi_X9_tenthsFor_X2 : ∀ w ∈ wsX20, w ∈ wsX9_tenthsFor := fun _ h => List.mem_cons_of_mem _ (List.mem_append_left _ (List.mem_append_left _ (List.mem_append_left _ (List.mem_append_left _ (List.mem_append_right _ (h))))))
theorem zi_X9_tenthsFor_X3 : ∀ w ∈ wsX30, w ∈ wsX9_tenthsFor := fun _ h => List.mem_cons_of_mem _ (List.mem_append_left _ (List.mem_append_left _ (List.mem_append_left _ (List.mem_append_right _ (h)))))
theorem zi_X9_tenthsFor_X6 : ∀ w ∈ wsX60, w ∈ wsX9_tenthsFor := fun _ h => List.mem_cons_of_mem _ (List.mem_append_left _ (List.mem_append_left _ (List.mem_append_right _ (h))))
theorem zi_X9_tenthsFor_X7 : ∀ w ∈ wsX70, w ∈ wsX9_tenthsFor := fun _ h => List.mem_cons_of_mem _ (List.mem_append_left _ (List.mem_append_right _ (h)))
abbrev rm_X9_tenthsFor : Room := { frames := 2, cells := 0, slots := 0, locals := 42 }
set_option maxHeartbeats 4000000 in
set_option maxRecDepth 100000 in
theorem c_X9_tenthsFor (l : Launch) (D : va_G) (cI cB cP : ClassId) (h0 : Nat) (a1 : Nat) (a2 : Nat) (lessons : Nat) (limit : Nat) (hard : Nat → Nat) (w0 : Nat) (kd : Nat) (wit : Nat) (f : Nat) (k : Nat) (hk : k < 5) (hkd : kd < 5) (hw : wit ≤ 9) (hf : f ≤ 9) (hh : hard k ≤ 9)  : zPi l D cI cB cP yX9_tenthsFor wsX9_tenthsFor rm_X9_tenthsFor [.ref h0, .ref w0, .int (nI f), .int (nI k)] ([(h0, .inr (9, [.ref a1, .ref a2, .int (nI lessons), .int (nI limit)])), (a1, .inl (cI, 5, .inl (fun q_ => nI (hard q_)))), (w0, .inr (zKi kd, [.int (nI wit)]))]) (fun r => r = nI (zTen wit kd f (hard k))) := by
  refine zPi_of (cc := cX9_tenthsFor) (maxL := 5) (by decide) rfl (Nat.le_of_ble_eq_true rfl) ?_
  intro p e s m args below meth c ls Q hx hb hml hts hown hP hK hN hl hret
  have hown : s.vm.findClass RX9 = some m.cls := hown
  have hl : lv_has ls 5 [(0, .ref h0), (1, .ref w0), (2, .int (nI f)), (3, .int (nI k))] := hl
  rcases z_k5 hkd with rfl | rfl | rfl | rfl | rfl
  · skip
    refine lv_aload_n hx hb dX9_tenthsFor_0 rfl (lv_at hl 1 rfl) ?_
    refine va_get (D := D) (ci := 6) (v := .int (nI wit)) (C := RX6) (T := TX6) (N := 1) hx hb hts zi_X9_tenthsFor_X6 hown hK hP 2 rfl rfl 0 (by decide) (hts (.fieldLink RX9 42 "BeatenInstead$Prince" "wit" "I") (List.mem_of_getElem? (i := 1) rfl)) (fun _ h9 => h9) rfl dX9_tenthsFor_1 ?_
    refine lv_aload_n hx hb dX9_tenthsFor_4 rfl (lv_at hl 1 rfl) ?_
    refine lv_iload_n hx hb dX9_tenthsFor_5 rfl (lv_at hl 2 rfl) ?_
    refine vp_callSi (z_runV (b := w0) (As := [.int (nI f)]) (rest := [.int (nI wit)]) hx hb hml hown hts hK hN hl.1 (c_X6_feels l D cI cB cP w0 f (by first | assumption | omega)) gX9_tenthsFor_X6_feels rfl zd_X6_feels rfl (Nat.le_of_ble_eq_true rfl) (Nat.le_of_ble_eq_true rfl) z_p0 (va_recv hK hP (ci := 6) (q0 := 2) rfl rfl) rfl (Nat.le_of_ble_eq_true rfl) dX9_tenthsFor_6 ⟨Nat.zero_le _, Nat.zero_le _⟩) (fun r hr => ?_)
    subst hr
    refine lv_iadd hx hb dX9_tenthsFor_9 ?_
    refine z_top (show ((nI wit) + (nI f)) = nI (wit + f) from nI_add wit f) ?_
    refine lv_aload_n hx hb dX9_tenthsFor_10 rfl (lv_at hl 0 rfl) ?_
    refine lv_iload_n hx hb dX9_tenthsFor_11 rfl (lv_at hl 3 rfl) ?_
    refine vp_callSi (z_runV (b := h0) (As := [.int (nI k)]) (rest := [.int (nI (wit + f))]) hx hb hml hown hts hK hN hl.1 (c_X9_hardOf l D cI cB cP h0 a1 a2 lessons limit hard k (by first | assumption | omega)) gX9_tenthsFor_X9_hardOf rfl zd_X9_hardOf rfl (Nat.le_of_ble_eq_true rfl) (Nat.le_of_ble_eq_true rfl) (va_P.sub (ws' := [(h0, .inr (9, [.ref a1, .ref a2, .int (nI lessons), .int (nI limit)])), (a1, .inl (cI, 5, .inl (fun q_ => nI (hard q_))))]) hP [0, 1] rfl) (va_recv hK hP (ci := 9) (q0 := 0) rfl rfl) rfl (Nat.le_of_ble_eq_true rfl) dX9_tenthsFor_12 ⟨Nat.zero_le _, Nat.zero_le _⟩) (fun r hr => ?_)
    subst hr
    refine lv_isub hx hb dX9_tenthsFor_15 ?_
    refine lv_istore (lv' := [(4, .int ((nI (wit + f)) - (nI (hard k)))), (0, .ref h0), (1, .ref w0), (2, .int (nI f)), (3, .int (nI k))]) hx hb dX9_tenthsFor_16 hl (by decide) rfl (fun ls hl => ?_)
    refine lv_iconst (v := 0) hx hb dX9_tenthsFor_18 (by decide) ?_
    refine lv_bipush (v := (10)) hx hb dX9_tenthsFor_19 (by decide) ?_
    refine lv_iload hx hb dX9_tenthsFor_21 (lv_at hl 0 rfl) ?_
    refine va_mmin hx hb (hml.trans hl.1.symm) hown (hts (.methodLink RX9 53 Lib.Math.min.name) (List.mem_of_getElem? (i := 2) rfl)) (hts (.static Lib.Math.min.name) (List.mem_of_getElem? (i := 3) rfl)) (hts (.initialized "java/lang/Math") (List.mem_of_getElem? (i := 4) rfl)) (hts (.code Lib.Math.min.name Lib.Math.min.code 2 (some .int)) (List.mem_of_getElem? (i := 5) rfl)) (Nat.le_of_ble_eq_true rfl) (Nat.le_of_ble_eq_true rfl) (Nat.zero_le _) (Nat.zero_le _) dX9_tenthsFor_23 ?_
    refine va_mmax hx hb (hml.trans hl.1.symm) hown (hts (.methodLink RX9 59 Lib.Math.max.name) (List.mem_of_getElem? (i := 6) rfl)) (hts (.static Lib.Math.max.name) (List.mem_of_getElem? (i := 7) rfl)) (hts (.initialized "java/lang/Math") (List.mem_of_getElem? (i := 4) rfl)) (hts (.code Lib.Math.max.name Lib.Math.max.code 2 (some .int)) (List.mem_of_getElem? (i := 8) rfl)) (Nat.le_of_ble_eq_true rfl) (Nat.le_of_ble_eq_true rfl) (Nat.zero_le _) (Nat.zero_le _) dX9_tenthsFor_26 ?_
    refine z_top (show (if 0 < (if ((nI (wit + f)) - (nI (hard k))) < 10 then ((nI (wit + f)) - (nI (hard k))) else 10) then (if ((nI (wit + f)) - (nI (hard k))) < 10 then ((nI (wit + f)) - (nI (hard k))) else 10) else 0) = nI (min 10 (wit + f - hard k)) from z_clamp (wit + f) (hard k) (by omega) (by omega)) ?_
    exact hret _ _ _ dX9_tenthsFor_29 (by simp [zTen, zFeels])
  · skip
    refine lv_aload_n hx hb dX9_tenthsFor_0 rfl (lv_at hl 1 rfl) ?_
    refine va_get (D := D) (ci := 7) (v := .int (nI wit)) (C := RX7) (T := TX7) (N := 1) hx hb hts zi_X9_tenthsFor_X7 hown hK hP 2 rfl rfl 0 (by decide) (hts (.fieldLink RX9 42 "BeatenInstead$Prince" "wit" "I") (List.mem_of_getElem? (i := 1) rfl)) (fun _ h9 => h9) rfl dX9_tenthsFor_1 ?_
    refine lv_aload_n hx hb dX9_tenthsFor_4 rfl (lv_at hl 1 rfl) ?_
    refine lv_iload_n hx hb dX9_tenthsFor_5 rfl (lv_at hl 2 rfl) ?_
    refine vp_callSi (va_Run.run (va_runU (As := [.int (nI f)]) (rest := [.int (nI wit)]) ⟨hx, hb, hml, hown, hts⟩ (c_X7_feels l D cI cB cP w0 f (by first | assumption | omega)) (va_cwO 1 hts gX9_tenthsFor_X7_feels_u47X7 rfl rfl rfl (x := ⟨"BeatenInstead$Prince", "feels", "(I)I"⟩) (List.mem_of_getElem? (i := 16) rfl) (by decide +kernel) ⟨Nat.le_of_ble_eq_true rfl, Nat.le_of_ble_eq_true rfl⟩) ⟨zR_blind, (va_recv hK hP (ci := 7) (q0 := 2) rfl rfl), zR_pre z_p0 hK hN⟩ rfl rfl hl.1 rfl (lv_room (Nat.le_of_ble_eq_true rfl)) dX9_tenthsFor_6 ⟨Nat.zero_le _, Nat.zero_le _⟩)) (fun r hr => ?_)
    subst hr
    refine lv_iadd hx hb dX9_tenthsFor_9 ?_
    refine z_top (show ((nI wit) + (nI (if f < 5 then 0 else f))) = nI (wit + (if f < 5 then 0 else f)) from nI_add wit (if f < 5 then 0 else f)) ?_
    refine lv_aload_n hx hb dX9_tenthsFor_10 rfl (lv_at hl 0 rfl) ?_
    refine lv_iload_n hx hb dX9_tenthsFor_11 rfl (lv_at hl 3 rfl) ?_
    refine vp_callSi (z_runV (b := h0) (As := [.int (nI k)]) (rest := [.int (nI (wit + (if f < 5 then 0 else f)))]) hx hb hml hown hts hK hN hl.1 (c_X9_hardOf l D cI cB cP h0 a1 a2 lessons limit hard k (by first | assumption | omega)) gX9_tenthsFor_X9_hardOf rfl zd_X9_hardOf rfl (Nat.le_of_ble_eq_true rfl) (Nat.le_of_ble_eq_true rfl) (va_P.sub (ws' := [(h0, .inr (9, [.ref a1, .ref a2, .int (nI lessons), .int (nI limit)])), (a1, .inl (cI, 5, .inl (fun q_ => nI (hard q_))))]) hP [0, 1] rfl) (va_recv hK hP (ci := 9) (q0 := 0) rfl rfl) rfl (Nat.le_of_ble_eq_true rfl) dX9_tenthsFor_12 ⟨Nat.zero_le _, Nat.zero_le _⟩) (fun r hr => ?_)
    subst hr
    refine lv_isub hx hb dX9_tenthsFor_15 ?_
    refine lv_istore (lv' := [(4, .int ((nI (wit + (if f < 5 then 0 else f))) - (nI (hard k)))), (0, .ref h0), (1, .ref w0), (2, .int (nI f)), (3, .int (nI k))]) hx hb dX9_tenthsFor_16 hl (by decide) rfl (fun ls hl => ?_)
    refine lv_iconst (v := 0) hx hb dX9_tenthsFor_18 (by decide) ?_
    refine lv_bipush (v := (10)) hx hb dX9_tenthsFor_19 (by decide) ?_
    refine lv_iload hx hb dX9_tenthsFor_21 (lv_at hl 0 rfl) ?_
    refine va_mmin hx hb (hml.trans hl.1.symm) hown (hts (.methodLink RX9 53 Lib.Math.min.name) (List.mem_of_getElem? (i := 2) rfl)) (hts (.static Lib.Math.min.name) (List.mem_of_getElem? (i := 3) rfl)) (hts (.initialized "java/lang/Math") (List.mem_of_getElem? (i := 4) rfl)) (hts (.code Lib.Math.min.name Lib.Math.min.code 2 (some .int)) (List.mem_of_getElem? (i := 5) rfl)) (Nat.le_of_ble_eq_true rfl) (Nat.le_of_ble_eq_true rfl) (Nat.zero_le _) (Nat.zero_le _) dX9_tenthsFor_23 ?_
    refine va_mmax hx hb (hml.trans hl.1.symm) hown (hts (.methodLink RX9 59 Lib.Math.max.name) (List.mem_of_getElem? (i := 6) rfl)) (hts (.static Lib.Math.max.name) (List.mem_of_getElem? (i := 7) rfl)) (hts (.initialized "java/lang/Math") (List.mem_of_getElem? (i := 4) rfl)) (hts (.code Lib.Math.max.name Lib.Math.max.code 2 (some .int)) (List.mem_of_getElem? (i := 8) rfl)) (Nat.le_of_ble_eq_true rfl) (Nat.le_of_ble_eq_true rfl) (Nat.zero_le _) (Nat.zero_le _) dX9_tenthsFor_26 ?_
    refine z_top (show (if 0 < (if ((nI (wit + (if f < 5 then 0 else f))) - (nI (hard k))) < 10 then ((nI (wit + (if f < 5 then 0 else f))) - (nI (hard k))) else 10) then (if ((nI (wit + (if f < 5 then 0 else f))) - (nI (hard k))) < 10 then ((nI (wit + (if f < 5 then 0 else f))) - (nI (hard k))) else 10) else 0) = nI (min 10 (wit + (if f < 5 then 0 else f) - hard k)) from z_clamp (wit + (if f < 5 then 0 else f)) (hard k) (by (try split) <;> omega) (by omega)) ?_
    exact hret _ _ _ dX9_tenthsFor_29 (by simp [zTen, zFeels])
  · skip
    refine lv_aload_n hx hb dX9_tenthsFor_0 rfl (lv_at hl 1 rfl) ?_
    refine va_get (D := D) (ci := 1) (v := .int (nI wit)) (C := RX1) (T := TX1) (N := 1) hx hb hts zi_X9_tenthsFor_X1 hown hK hP 2 rfl rfl 0 (by decide) (hts (.fieldLink RX9 42 "BeatenInstead$Prince" "wit" "I") (List.mem_of_getElem? (i := 1) rfl)) (fun _ h9 => h9) rfl dX9_tenthsFor_1 ?_
    refine lv_aload_n hx hb dX9_tenthsFor_4 rfl (lv_at hl 1 rfl) ?_
    refine lv_iload_n hx hb dX9_tenthsFor_5 rfl (lv_at hl 2 rfl) ?_
    refine vp_callSi (va_Run.run (va_runU (As := [.int (nI f)]) (rest := [.int (nI wit)]) ⟨hx, hb, hml, hown, hts⟩ (c_X1_feels l D cI cB cP w0 f (by first | assumption | omega)) (va_cwO 1 hts gX9_tenthsFor_X1_feels_u47X1 rfl rfl rfl (x := ⟨"BeatenInstead$Prince", "feels", "(I)I"⟩) (List.mem_of_getElem? (i := 16) rfl) (by decide +kernel) ⟨Nat.le_of_ble_eq_true rfl, Nat.le_of_ble_eq_true rfl⟩) ⟨zR_blind, (va_recv hK hP (ci := 1) (q0 := 2) rfl rfl), zR_pre z_p0 hK hN⟩ rfl rfl hl.1 rfl (lv_room (Nat.le_of_ble_eq_true rfl)) dX9_tenthsFor_6 ⟨Nat.zero_le _, Nat.zero_le _⟩)) (fun r hr => ?_)
    subst hr
    refine lv_iadd hx hb dX9_tenthsFor_9 ?_
    refine z_top (show ((nI wit) + (nI (9 - f))) = nI (wit + (9 - f)) from nI_add wit (9 - f)) ?_
    refine lv_aload_n hx hb dX9_tenthsFor_10 rfl (lv_at hl 0 rfl) ?_
    refine lv_iload_n hx hb dX9_tenthsFor_11 rfl (lv_at hl 3 rfl) ?_
    refine vp_callSi (z_runV (b := h0) (As := [.int (nI k)]) (rest := [.int (nI (wit + (9 - f)))]) hx hb hml hown hts hK hN hl.1 (c_X9_hardOf l D cI cB cP h0 a1 a2 lessons limit hard k (by first | assumption | omega)) gX9_tenthsFor_X9_hardOf rfl zd_X9_hardOf rfl (Nat.le_of_ble_eq_true rfl) (Nat.le_of_ble_eq_true rfl) (va_P.sub (ws' := [(h0, .inr (9, [.ref a1, .ref a2, .int (nI lessons), .int (nI limit)])), (a1, .inl (cI, 5, .inl (fun q_ => nI (hard q_))))]) hP [0, 1] rfl) (va_recv hK hP (ci := 9) (q0 := 0) rfl rfl) rfl (Nat.le_of_ble_eq_true rfl) dX9_tenthsFor_12 ⟨Nat.zero_le _, Nat.zero_le _⟩) (fun r hr => ?_)
    subst hr
    refine lv_isub hx hb dX9_tenthsFor_15 ?_
    refine lv_istore (lv' := [(4, .int ((nI (wit + (9 - f))) - (nI (hard k)))), (0, .ref h0), (1, .ref w0), (2, .int (nI f)), (3, .int (nI k))]) hx hb dX9_tenthsFor_16 hl (by decide) rfl (fun ls hl => ?_)
    refine lv_iconst (v := 0) hx hb dX9_tenthsFor_18 (by decide) ?_
    refine lv_bipush (v := (10)) hx hb dX9_tenthsFor_19 (by decide) ?_
    refine lv_iload hx hb dX9_tenthsFor_21 (lv_at hl 0 rfl) ?_
    refine va_mmin hx hb (hml.trans hl.1.symm) hown (hts (.methodLink RX9 53 Lib.Math.min.name) (List.mem_of_getElem? (i := 2) rfl)) (hts (.static Lib.Math.min.name) (List.mem_of_getElem? (i := 3) rfl)) (hts (.initialized "java/lang/Math") (List.mem_of_getElem? (i := 4) rfl)) (hts (.code Lib.Math.min.name Lib.Math.min.code 2 (some .int)) (List.mem_of_getElem? (i := 5) rfl)) (Nat.le_of_ble_eq_true rfl) (Nat.le_of_ble_eq_true rfl) (Nat.zero_le _) (Nat.zero_le _) dX9_tenthsFor_23 ?_
    refine va_mmax hx hb (hml.trans hl.1.symm) hown (hts (.methodLink RX9 59 Lib.Math.max.name) (List.mem_of_getElem? (i := 6) rfl)) (hts (.static Lib.Math.max.name) (List.mem_of_getElem? (i := 7) rfl)) (hts (.initialized "java/lang/Math") (List.mem_of_getElem? (i := 4) rfl)) (hts (.code Lib.Math.max.name Lib.Math.max.code 2 (some .int)) (List.mem_of_getElem? (i := 8) rfl)) (Nat.le_of_ble_eq_true rfl) (Nat.le_of_ble_eq_true rfl) (Nat.zero_le _) (Nat.zero_le _) dX9_tenthsFor_26 ?_
    refine z_top (show (if 0 < (if ((nI (wit + (9 - f))) - (nI (hard k))) < 10 then ((nI (wit + (9 - f))) - (nI (hard k))) else 10) then (if ((nI (wit + (9 - f))) - (nI (hard k))) < 10 then ((nI (wit + (9 - f))) - (nI (hard k))) else 10) else 0) = nI (min 10 (wit + (9 - f) - hard k)) from z_clamp (wit + (9 - f)) (hard k) (by omega) (by omega)) ?_
    exact hret _ _ _ dX9_tenthsFor_29 (by simp [zTen, zFeels])
  · skip
    refine lv_aload_n hx hb dX9_tenthsFor_0 rfl (lv_at hl 1 rfl) ?_
    refine va_get (D := D) (ci := 3) (v := .int (nI wit)) (C := RX3) (T := TX3) (N := 1) hx hb hts zi_X9_tenthsFor_X3 hown hK hP 2 rfl rfl 0 (by decide) (hts (.fieldLink RX9 42 "BeatenInstead$Prince" "wit" "I") (List.mem_of_getElem? (i := 1) rfl)) (fun _ h9 => h9) rfl dX9_tenthsFor_1 ?_
    refine lv_aload_n hx hb dX9_tenthsFor_4 rfl (lv_at hl 1 rfl) ?_
    refine lv_iload_n hx hb dX9_tenthsFor_5 rfl (lv_at hl 2 rfl) ?_
    refine vp_callSi (va_Run.run (va_runU (As := [.int (nI f)]) (rest := [.int (nI wit)]) ⟨hx, hb, hml, hown, hts⟩ (c_X3_feels l D cI cB cP w0 f (by first | assumption | omega)) (va_cwO 1 hts gX9_tenthsFor_X3_feels_u47X3 rfl rfl rfl (x := ⟨"BeatenInstead$Prince", "feels", "(I)I"⟩) (List.mem_of_getElem? (i := 16) rfl) (by decide +kernel) ⟨Nat.le_of_ble_eq_true rfl, Nat.le_of_ble_eq_true rfl⟩) ⟨zR_blind, (va_recv hK hP (ci := 3) (q0 := 2) rfl rfl), zR_pre z_p0 hK hN⟩ rfl rfl hl.1 rfl (lv_room (Nat.le_of_ble_eq_true rfl)) dX9_tenthsFor_6 ⟨Nat.zero_le _, Nat.zero_le _⟩)) (fun r hr => ?_)
    subst hr
    refine lv_iadd hx hb dX9_tenthsFor_9 ?_
    refine z_top (show ((nI wit) + (nI (f / 2))) = nI (wit + f / 2) from nI_add wit (f / 2)) ?_
    refine lv_aload_n hx hb dX9_tenthsFor_10 rfl (lv_at hl 0 rfl) ?_
    refine lv_iload_n hx hb dX9_tenthsFor_11 rfl (lv_at hl 3 rfl) ?_
    refine vp_callSi (z_runV (b := h0) (As := [.int (nI k)]) (rest := [.int (nI (wit + f / 2))]) hx hb hml hown hts hK hN hl.1 (c_X9_hardOf l D cI cB cP h0 a1 a2 lessons limit hard k (by first | assumption | omega)) gX9_tenthsFor_X9_hardOf rfl zd_X9_hardOf rfl (Nat.le_of_ble_eq_true rfl) (Nat.le_of_ble_eq_true rfl) (va_P.sub (ws' := [(h0, .inr (9, [.ref a1, .ref a2, .int (nI lessons), .int (nI limit)])), (a1, .inl (cI, 5, .inl (fun q_ => nI (hard q_))))]) hP [0, 1] rfl) (va_recv hK hP (ci := 9) (q0 := 0) rfl rfl) rfl (Nat.le_of_ble_eq_true rfl) dX9_tenthsFor_12 ⟨Nat.zero_le _, Nat.zero_le _⟩) (fun r hr => ?_)
    subst hr
    refine lv_isub hx hb dX9_tenthsFor_15 ?_
    refine lv_istore (lv' := [(4, .int ((nI (wit + f / 2)) - (nI (hard k)))), (0, .ref h0), (1, .ref w0), (2, .int (nI f)), (3, .int (nI k))]) hx hb dX9_tenthsFor_16 hl (by decide) rfl (fun ls hl => ?_)
    refine lv_iconst (v := 0) hx hb dX9_tenthsFor_18 (by decide) ?_
    refine lv_bipush (v := (10)) hx hb dX9_tenthsFor_19 (by decide) ?_
    refine lv_iload hx hb dX9_tenthsFor_21 (lv_at hl 0 rfl) ?_
    refine va_mmin hx hb (hml.trans hl.1.symm) hown (hts (.methodLink RX9 53 Lib.Math.min.name) (List.mem_of_getElem? (i := 2) rfl)) (hts (.static Lib.Math.min.name) (List.mem_of_getElem? (i := 3) rfl)) (hts (.initialized "java/lang/Math") (List.mem_of_getElem? (i := 4) rfl)) (hts (.code Lib.Math.min.name Lib.Math.min.code 2 (some .int)) (List.mem_of_getElem? (i := 5) rfl)) (Nat.le_of_ble_eq_true rfl) (Nat.le_of_ble_eq_true rfl) (Nat.zero_le _) (Nat.zero_le _) dX9_tenthsFor_23 ?_
    refine va_mmax hx hb (hml.trans hl.1.symm) hown (hts (.methodLink RX9 59 Lib.Math.max.name) (List.mem_of_getElem? (i := 6) rfl)) (hts (.static Lib.Math.max.name) (List.mem_of_getElem? (i := 7) rfl)) (hts (.initialized "java/lang/Math") (List.mem_of_getElem? (i := 4) rfl)) (hts (.code Lib.Math.max.name Lib.Math.max.code 2 (some .int)) (List.mem_of_getElem? (i := 8) rfl)) (Nat.le_of_ble_eq_true rfl) (Nat.le_of_ble_eq_true rfl) (Nat.zero_le _) (Nat.zero_le _) dX9_tenthsFor_26 ?_
    refine z_top (show (if 0 < (if ((nI (wit + f / 2)) - (nI (hard k))) < 10 then ((nI (wit + f / 2)) - (nI (hard k))) else 10) then (if ((nI (wit + f / 2)) - (nI (hard k))) < 10 then ((nI (wit + f / 2)) - (nI (hard k))) else 10) else 0) = nI (min 10 (wit + f / 2 - hard k)) from z_clamp (wit + f / 2) (hard k) (by omega) (by omega)) ?_
    exact hret _ _ _ dX9_tenthsFor_29 (by simp [zTen, zFeels])
  · skip
    refine lv_aload_n hx hb dX9_tenthsFor_0 rfl (lv_at hl 1 rfl) ?_
    refine va_get (D := D) (ci := 2) (v := .int (nI wit)) (C := RX2) (T := TX2) (N := 1) hx hb hts zi_X9_tenthsFor_X2 hown hK hP 2 rfl rfl 0 (by decide) (hts (.fieldLink RX9 42 "BeatenInstead$Prince" "wit" "I") (List.mem_of_getElem? (i := 1) rfl)) (fun _ h9 => h9) rfl dX9_tenthsFor_1 ?_
    refine lv_aload_n hx hb dX9_tenthsFor_4 rfl (lv_at hl 1 rfl) ?_
    refine lv_iload_n hx hb dX9_tenthsFor_5 rfl (lv_at hl 2 rfl) ?_
    refine vp_callSi (va_Run.run (va_runU (As := [.int (nI f)]) (rest := [.int (nI wit)]) ⟨hx, hb, hml, hown, hts⟩ (c_X2_feels l D cI cB cP w0 wit f (by first | assumption | omega)) (va_cwO 1 hts gX9_tenthsFor_X2_feels_u47X2 rfl rfl rfl (x := ⟨"BeatenInstead$Prince", "feels", "(I)I"⟩) (List.mem_of_getElem? (i := 16) rfl) (by decide +kernel) ⟨Nat.le_of_ble_eq_true rfl, Nat.le_of_ble_eq_true rfl⟩) ⟨zR_blind, (va_recv hK hP (ci := 2) (q0 := 2) rfl rfl), zR_pre (va_P.sub (ws' := [(w0, .inr (2, [.int (nI wit)]))]) hP [2] rfl) hK hN⟩ rfl rfl hl.1 rfl (lv_room (Nat.le_of_ble_eq_true rfl)) dX9_tenthsFor_6 ⟨Nat.zero_le _, Nat.zero_le _⟩)) (fun r hr => ?_)
    subst hr
    refine lv_iadd hx hb dX9_tenthsFor_9 ?_
    refine z_top (show ((nI wit) + (nI ((if f < 5 then 0 else f) + 2))) = nI (wit + ((if f < 5 then 0 else f) + 2)) from nI_add wit ((if f < 5 then 0 else f) + 2)) ?_
    refine lv_aload_n hx hb dX9_tenthsFor_10 rfl (lv_at hl 0 rfl) ?_
    refine lv_iload_n hx hb dX9_tenthsFor_11 rfl (lv_at hl 3 rfl) ?_
    refine vp_callSi (z_runV (b := h0) (As := [.int (nI k)]) (rest := [.int (nI (wit + ((if f < 5 then 0 else f) + 2)))]) hx hb hml hown hts hK hN hl.1 (c_X9_hardOf l D cI cB cP h0 a1 a2 lessons limit hard k (by first | assumption | omega)) gX9_tenthsFor_X9_hardOf rfl zd_X9_hardOf rfl (Nat.le_of_ble_eq_true rfl) (Nat.le_of_ble_eq_true rfl) (va_P.sub (ws' := [(h0, .inr (9, [.ref a1, .ref a2, .int (nI lessons), .int (nI limit)])), (a1, .inl (cI, 5, .inl (fun q_ => nI (hard q_))))]) hP [0, 1] rfl) (va_recv hK hP (ci := 9) (q0 := 0) rfl rfl) rfl (Nat.le_of_ble_eq_true rfl) dX9_tenthsFor_12 ⟨Nat.zero_le _, Nat.zero_le _⟩) (fun r hr => ?_)
    subst hr
    refine lv_isub hx hb dX9_tenthsFor_15 ?_
    refine lv_istore (lv' := [(4, .int ((nI (wit + ((if f < 5 then 0 else f) + 2))) - (nI (hard k)))), (0, .ref h0), (1, .ref w0), (2, .int (nI f)), (3, .int (nI k))]) hx hb dX9_tenthsFor_16 hl (by decide) rfl (fun ls hl => ?_)
    refine lv_iconst (v := 0) hx hb dX9_tenthsFor_18 (by decide) ?_
    refine lv_bipush (v := (10)) hx hb dX9_tenthsFor_19 (by decide) ?_
    refine lv_iload hx hb dX9_tenthsFor_21 (lv_at hl 0 rfl) ?_
    refine va_mmin hx hb (hml.trans hl.1.symm) hown (hts (.methodLink RX9 53 Lib.Math.min.name) (List.mem_of_getElem? (i := 2) rfl)) (hts (.static Lib.Math.min.name) (List.mem_of_getElem? (i := 3) rfl)) (hts (.initialized "java/lang/Math") (List.mem_of_getElem? (i := 4) rfl)) (hts (.code Lib.Math.min.name Lib.Math.min.code 2 (some .int)) (List.mem_of_getElem? (i := 5) rfl)) (Nat.le_of_ble_eq_true rfl) (Nat.le_of_ble_eq_true rfl) (Nat.zero_le _) (Nat.zero_le _) dX9_tenthsFor_23 ?_
    refine va_mmax hx hb (hml.trans hl.1.symm) hown (hts (.methodLink RX9 59 Lib.Math.max.name) (List.mem_of_getElem? (i := 6) rfl)) (hts (.static Lib.Math.max.name) (List.mem_of_getElem? (i := 7) rfl)) (hts (.initialized "java/lang/Math") (List.mem_of_getElem? (i := 4) rfl)) (hts (.code Lib.Math.max.name Lib.Math.max.code 2 (some .int)) (List.mem_of_getElem? (i := 8) rfl)) (Nat.le_of_ble_eq_true rfl) (Nat.le_of_ble_eq_true rfl) (Nat.zero_le _) (Nat.zero_le _) dX9_tenthsFor_26 ?_
    refine z_top (show (if 0 < (if ((nI (wit + ((if f < 5 then 0 else f) + 2))) - (nI (hard k))) < 10 then ((nI (wit + ((if f < 5 then 0 else f) + 2))) - (nI (hard k))) else 10) then (if ((nI (wit + ((if f < 5 then 0 else f) + 2))) - (nI (hard k))) < 10 then ((nI (wit + ((if f < 5 then 0 else f) + 2))) - (nI (hard k))) else 10) else 0) = nI (min 10 (wit + ((if f < 5 then 0 else f) + 2) - hard k)) from z_clamp (wit + ((if f < 5 then 0 else f) + 2)) (hard k) (by (try split) <;> omega) (by omega)) ?_
    exact hret _ _ _ dX9_tenthsFor_29 (by simp [zTen, zFeels])
