abbrev rm_X6_kind : Room := { frames := 0, cells := 0, slots := 0, locals := 0 }
set_option maxHeartbeats 4000000 in
set_option maxRecDepth 100000 in
theorem c_X6_kind (l : Launch) (D : va_G) (cI cB cP : ClassId) (w0 : Nat)   : zPi l D cI cB cP yX6_kind wsX6_kind rm_X6_kind [.ref w0] ([]) (fun r => r = nI 0) := by
  refine zPi_of (cc := cX6_kind) (maxL := 1) (by decide) rfl (Nat.le_of_ble_eq_true rfl) ?_
  intro p e s m args below meth c ls Q hx hb hml hts hown hP hK hN hl hret
  have hown : s.vm.findClass RX6 = some m.cls := hown
  have hl : lv_has ls 1 [(0, .ref w0)] := hl
  refine lv_iconst (v := 0) hx hb dX6_kind_0 (by decide) ?_
  exact hret _ _ _ dX6_kind_1 (by first | rfl | omega | (simp; omega) | simp_all)

abbrev rm_X7_kind : Room := { frames := 0, cells := 0, slots := 0, locals := 0 }
set_option maxHeartbeats 4000000 in
set_option maxRecDepth 100000 in
theorem c_X7_kind (l : Launch) (D : va_G) (cI cB cP : ClassId) (w0 : Nat)   : zPi l D cI cB cP yX7_kind wsX7_kind rm_X7_kind [.ref w0] ([]) (fun r => r = nI 1) := by
  refine zPi_of (cc := cX7_kind) (maxL := 1) (by decide) rfl (Nat.le_of_ble_eq_true rfl) ?_
  intro p e s m args below meth c ls Q hx hb hml hts hown hP hK hN hl hret
  have hown : s.vm.findClass RX7 = some m.cls := hown
  have hl : lv_has ls 1 [(0, .ref w0)] := hl
  refine lv_iconst (v := 1) hx hb dX7_kind_0 (by decide) ?_
  exact hret _ _ _ dX7_kind_1 (by first | rfl | omega | (simp; omega) | simp_all)

abbrev rm_X1_kind : Room := { frames := 0, cells := 0, slots := 0, locals := 0 }
set_option maxHeartbeats 4000000 in
set_option maxRecDepth 100000 in
theorem c_X1_kind (l : Launch) (D : va_G) (cI cB cP : ClassId) (w0 : Nat)   : zPi l D cI cB cP yX1_kind wsX1_kind rm_X1_kind [.ref w0] ([]) (fun r => r = nI 2) := by
  refine zPi_of (cc := cX1_kind) (maxL := 1) (by decide) rfl (Nat.le_of_ble_eq_true rfl) ?_
  intro p e s m args below meth c ls Q hx hb hml hts hown hP hK hN hl hret
  have hown : s.vm.findClass RX1 = some m.cls := hown
  have hl : lv_has ls 1 [(0, .ref w0)] := hl
  refine lv_iconst (v := 2) hx hb dX1_kind_0 (by decide) ?_
  exact hret _ _ _ dX1_kind_1 (by first | rfl | omega | (simp; omega) | simp_all)

abbrev rm_X3_kind : Room := { frames := 0, cells := 0, slots := 0, locals := 0 }
set_option maxHeartbeats 4000000 in
set_option maxRecDepth 100000 in
theorem c_X3_kind (l : Launch) (D : va_G) (cI cB cP : ClassId) (w0 : Nat)   : zPi l D cI cB cP yX3_kind wsX3_kind rm_X3_kind [.ref w0] ([]) (fun r => r = nI 3) := by
  refine zPi_of (cc := cX3_kind) (maxL := 1) (by decide) rfl (Nat.le_of_ble_eq_true rfl) ?_
  intro p e s m args below meth c ls Q hx hb hml hts hown hP hK hN hl hret
  have hown : s.vm.findClass RX3 = some m.cls := hown
  have hl : lv_has ls 1 [(0, .ref w0)] := hl
  refine lv_iconst (v := 3) hx hb dX3_kind_0 (by decide) ?_
  exact hret _ _ _ dX3_kind_1 (by first | rfl | omega | (simp; omega) | simp_all)

abbrev rm_X2_kind : Room := { frames := 0, cells := 0, slots := 0, locals := 0 }
set_option maxHeartbeats 4000000 in
set_option maxRecDepth 100000 in
theorem c_X2_kind (l : Launch) (D : va_G) (cI cB cP : ClassId) (w0 : Nat)   : zPi l D cI cB cP yX2_kind wsX2_kind rm_X2_kind [.ref w0] ([]) (fun r => r = nI 4) := by
  refine zPi_of (cc := cX2_kind) (maxL := 1) (by decide) rfl (Nat.le_of_ble_eq_true rfl) ?_
  intro p e s m args below meth c ls Q hx hb hml hts hown hP hK hN hl hret
  have hown : s.vm.findClass RX2 = some m.cls := hown
  have hl : lv_has ls 1 [(0, .ref w0)] := hl
  refine lv_iconst (v := 4) hx hb dX2_kind_0 (by decide) ?_
  exact hret _ _ _ dX2_kind_1 (by first | rfl | omega | (simp; omega) | simp_all)

abbrev rm_X6_feels : Room := { frames := 0, cells := 0, slots := 0, locals := 0 }
set_option maxHeartbeats 4000000 in
set_option maxRecDepth 100000 in
theorem c_X6_feels (l : Launch) (D : va_G) (cI cB cP : ClassId) (w0 : Nat) (f : Nat) (hf : f ≤ 9)  : zPi l D cI cB cP yX6_feels wsX6_feels rm_X6_feels [.ref w0, .int (nI f)] ([]) (fun r => r = nI f) := by
  refine zPi_of (cc := cX6_feels) (maxL := 2) (by decide) rfl (Nat.le_of_ble_eq_true rfl) ?_
  intro p e s m args below meth c ls Q hx hb hml hts hown hP hK hN hl hret
  have hown : s.vm.findClass RX6 = some m.cls := hown
  have hl : lv_has ls 2 [(0, .ref w0), (1, .int (nI f))] := hl
  refine lv_iload_n hx hb dX6_feels_0 rfl (lv_at hl 1 rfl) ?_
  exact hret _ _ _ dX6_feels_1 rfl

abbrev rm_X7_feels : Room := { frames := 0, cells := 0, slots := 0, locals := 0 }
set_option maxHeartbeats 4000000 in
set_option maxRecDepth 100000 in
theorem c_X7_feels (l : Launch) (D : va_G) (cI cB cP : ClassId) (w0 : Nat) (f : Nat) (hf : f ≤ 9)  : zPi l D cI cB cP yX7_feels wsX7_feels rm_X7_feels [.ref w0, .int (nI f)] ([]) (fun r => r = nI (if f < 5 then 0 else f)) := by
  refine zPi_of (cc := cX7_feels) (maxL := 2) (by decide) rfl (Nat.le_of_ble_eq_true rfl) ?_
  intro p e s m args below meth c ls Q hx hb hml hts hown hP hK hN hl hret
  have hown : s.vm.findClass RX7 = some m.cls := hown
  have hl : lv_has ls 2 [(0, .ref w0), (1, .int (nI f))] := hl
  refine lv_iload_n hx hb dX7_feels_0 rfl (lv_at hl 1 rfl) ?_
  refine lv_iconst (v := 5) hx hb dX7_feels_1 (by decide) ?_
  refine lv_icmp_ge (tgt := 9) hx hb dX7_feels_2 (by decide) (fun c_1 => ?_) (fun c_1 => ?_)
  · skip
    have c_1 : 5 ≤ f := (nI_leI (a := 5) (b := f) (by omega) (by omega)).mp c_1
    refine lv_iload_n hx hb dX7_feels_9 rfl (lv_at hl 1 rfl) ?_
    exact hret _ _ _ dX7_feels_10 (by rw [if_neg (by omega)])
  · skip
    have c_1 : ¬ (5 ≤ f) := (not_congr (nI_leI (a := 5) (b := f) (by omega) (by omega))).mp c_1
    refine lv_iconst (v := 0) hx hb dX7_feels_5 (by decide) ?_
    refine lv_goto (tgt := 10) hx hb dX7_feels_6 (by decide) ?_
    exact hret _ _ _ dX7_feels_10 (by rw [if_pos (by omega)]; rfl)

abbrev rm_X1_feels : Room := { frames := 0, cells := 0, slots := 0, locals := 0 }
set_option maxHeartbeats 4000000 in
set_option maxRecDepth 100000 in
theorem c_X1_feels (l : Launch) (D : va_G) (cI cB cP : ClassId) (w0 : Nat) (f : Nat) (hf : f ≤ 9)  : zPi l D cI cB cP yX1_feels wsX1_feels rm_X1_feels [.ref w0, .int (nI f)] ([]) (fun r => r = nI (9 - f)) := by
  refine zPi_of (cc := cX1_feels) (maxL := 2) (by decide) rfl (Nat.le_of_ble_eq_true rfl) ?_
  intro p e s m args below meth c ls Q hx hb hml hts hown hP hK hN hl hret
  have hown : s.vm.findClass RX1 = some m.cls := hown
  have hl : lv_has ls 2 [(0, .ref w0), (1, .int (nI f))] := hl
  refine lv_bipush (v := (9)) hx hb dX1_feels_0 (by decide) ?_
  refine lv_iload_n hx hb dX1_feels_2 rfl (lv_at hl 1 rfl) ?_
  refine lv_isub hx hb dX1_feels_3 ?_
  refine z_top (show (9 - (nI f)) = nI (9 - f) from pk_sub (a := 9) (b := f) (by omega)) ?_
  exact hret _ _ _ dX1_feels_4 rfl

abbrev rm_X3_feels : Room := { frames := 0, cells := 0, slots := 0, locals := 0 }
set_option maxHeartbeats 4000000 in
set_option maxRecDepth 100000 in
theorem c_X3_feels (l : Launch) (D : va_G) (cI cB cP : ClassId) (w0 : Nat) (f : Nat) (hf : f ≤ 9)  : zPi l D cI cB cP yX3_feels wsX3_feels rm_X3_feels [.ref w0, .int (nI f)] ([]) (fun r => r = nI (f / 2)) := by
  refine zPi_of (cc := cX3_feels) (maxL := 2) (by decide) rfl (Nat.le_of_ble_eq_true rfl) ?_
  intro p e s m args below meth c ls Q hx hb hml hts hown hP hK hN hl hret
  have hown : s.vm.findClass RX3 = some m.cls := hown
  have hl : lv_has ls 2 [(0, .ref w0), (1, .int (nI f))] := hl
  refine lv_iload_n hx hb dX3_feels_0 rfl (lv_at hl 1 rfl) ?_
  refine lv_iconst (v := 2) hx hb dX3_feels_1 (by decide) ?_
  refine lv_idiv hx hb dX3_feels_2 (by decide) ?_
  refine z_top (show ((nI f) / 2) = nI (f / 2) from pk_div (a := f) (d := 2) (by omega) (by omega) (by omega)) ?_
  exact hret _ _ _ dX3_feels_3 rfl

abbrev rm_X2_feels : Room := { frames := 1, cells := 0, slots := 0, locals := 21 }
set_option maxHeartbeats 4000000 in
set_option maxRecDepth 100000 in
theorem c_X2_feels (l : Launch) (D : va_G) (cI cB cP : ClassId) (w0 : Nat) (wit : Nat) (f : Nat) (hf : f ≤ 9)  : zPi l D cI cB cP yX2_feels wsX2_feels rm_X2_feels [.ref w0, .int (nI f)] ([(w0, .inr (2, [.int (nI wit)]))]) (fun r => r = nI ((if f < 5 then 0 else f) + 2)) := by
  refine zPi_of (cc := cX2_feels) (maxL := 2) (by decide) rfl (Nat.le_of_ble_eq_true rfl) ?_
  intro p e s m args below meth c ls Q hx hb hml hts hown hP hK hN hl hret
  have hown : s.vm.findClass RX2 = some m.cls := hown
  have hl : lv_has ls 2 [(0, .ref w0), (1, .int (nI f))] := hl
  refine lv_aload_n hx hb dX2_feels_0 rfl (lv_at hl 0 rfl) ?_
  refine lv_iload_n hx hb dX2_feels_1 rfl (lv_at hl 1 rfl) ?_
  refine vp_callSi (va_Run.run (va_runSU (As := [.int (nI f)]) (rest := []) (hK.1 2 (RX2, TX2, 1) rfl).2 ⟨hx, hb, hml, hown, hts⟩ (c_X7_feels l D cI cB cP w0 f (by first | assumption | omega)) (va_cwSU 1 hts gX2_feels_X7_feels_s9 rfl rfl rfl (by decide +kernel) ⟨Nat.le_of_ble_eq_true rfl, Nat.le_of_ble_eq_true rfl⟩) ⟨zR_blind, (va_recv hK hP (ci := 2) (q0 := 0) rfl rfl), zR_pre z_p0 hK hN⟩ rfl rfl hl.1 rfl (lv_room (Nat.le_of_ble_eq_true rfl)) dX2_feels_2 ⟨Nat.zero_le _, Nat.zero_le _⟩)) (fun r hr => ?_)
  subst hr
  refine lv_iconst (v := 2) hx hb dX2_feels_5 (by decide) ?_
  refine lv_iadd hx hb dX2_feels_6 ?_
  refine z_top (show ((nI (if f < 5 then 0 else f)) + 2) = nI ((if f < 5 then 0 else f) + 2) from nI_add (if f < 5 then 0 else f) 2) ?_
  exact hret _ _ _ dX2_feels_7 rfl

abbrev rm_X6_isOf : Room := { frames := 0, cells := 0, slots := 0, locals := 0 }
set_option maxHeartbeats 4000000 in
set_option maxRecDepth 100000 in
theorem c_X6_isOf (l : Launch) (D : va_G) (cI cB cP : ClassId) (w0 : Nat) (kd : Nat) (wit : Nat) (k : Nat) (hkd : kd < 5) (hk : k < 5)  : zPi l D cI cB cP yX6_isOf wsX6_isOf rm_X6_isOf [.ref w0, .int (nI k)] ([(w0, .inr (zKi kd, [.int (nI wit)]))]) (fun r => zB (k = 0 ∨ kd = k ∨ (k = 1 ∧ kd = 4)) r) := by
  refine zPz_of (cc := cX6_isOf) (maxL := 2) (by decide) rfl (Nat.le_of_ble_eq_true rfl) ?_
  intro p e s m args below meth c ls Q hx hb hml hts hown hP hK hN hl hret
  have hown : s.vm.findClass RX6 = some m.cls := hown
  have hl : lv_has ls 2 [(0, .ref w0), (1, .int (nI k))] := hl
  rcases z_k5 hkd with rfl | rfl | rfl | rfl | rfl
  · skip
    rcases z_k5 hk with rfl | rfl | rfl | rfl | rfl
    · skip
      refine lv_iload_n hx hb dX6_isOf_0 rfl (lv_at hl 1 rfl) ?_
      refine lv_tableIn (tgt := 32) (off := 31) hx hb dX6_isOf_1 (by decide +kernel) (by decide +kernel) (by decide +kernel) (by decide) ?_
      refine lv_iconst (v := 1) hx hb dX6_isOf_32 (by decide) ?_
      exact hret _ _ _ dX6_isOf_33 rfl (zB.t (by decide))
    · skip
      refine lv_iload_n hx hb dX6_isOf_0 rfl (lv_at hl 1 rfl) ?_
      refine lv_tableIn (tgt := 34) (off := 33) hx hb dX6_isOf_1 (by decide +kernel) (by decide +kernel) (by decide +kernel) (by decide) ?_
      refine lv_aload_n hx hb dX6_isOf_34 rfl (lv_at hl 0 rfl) ?_
      refine va_instNo (C := RX6) hx hb hown (hts (.classLink RX6 15 "BeatenInstead$Proud") (List.mem_of_getElem? (i := 1) rfl)) (hN.c (q := ("BeatenInstead$Prince", "BeatenInstead$Proud")) 2 rfl) (va_recv hK hP (ci := 6) (q0 := 0) rfl rfl) dX6_isOf_35 ?_
      exact hret _ _ _ dX6_isOf_38 rfl (zB.f (by decide))
    · skip
      refine lv_iload_n hx hb dX6_isOf_0 rfl (lv_at hl 1 rfl) ?_
      refine lv_tableIn (tgt := 39) (off := 38) hx hb dX6_isOf_1 (by decide +kernel) (by decide +kernel) (by decide +kernel) (by decide) ?_
      refine lv_aload_n hx hb dX6_isOf_39 rfl (lv_at hl 0 rfl) ?_
      refine va_instNo (C := RX6) hx hb hown (hts (.classLink RX6 17 "BeatenInstead$Cruel") (List.mem_of_getElem? (i := 2) rfl)) (hN.c (q := ("BeatenInstead$Prince", "BeatenInstead$Cruel")) 6 rfl) (va_recv hK hP (ci := 6) (q0 := 0) rfl rfl) dX6_isOf_40 ?_
      exact hret _ _ _ dX6_isOf_43 rfl (zB.f (by decide))
    · skip
      refine lv_iload_n hx hb dX6_isOf_0 rfl (lv_at hl 1 rfl) ?_
      refine lv_tableIn (tgt := 44) (off := 43) hx hb dX6_isOf_1 (by decide +kernel) (by decide +kernel) (by decide +kernel) (by decide) ?_
      refine lv_aload_n hx hb dX6_isOf_44 rfl (lv_at hl 0 rfl) ?_
      refine va_instNo (C := RX6) hx hb hown (hts (.classLink RX6 19 "BeatenInstead$Lazy") (List.mem_of_getElem? (i := 3) rfl)) (hN.c (q := ("BeatenInstead$Prince", "BeatenInstead$Lazy")) 10 rfl) (va_recv hK hP (ci := 6) (q0 := 0) rfl rfl) dX6_isOf_45 ?_
      exact hret _ _ _ dX6_isOf_48 rfl (zB.f (by decide))
    · skip
      refine lv_iload_n hx hb dX6_isOf_0 rfl (lv_at hl 1 rfl) ?_
      refine lv_tableOut (tgt := 49) hx hb dX6_isOf_1 (by decide +kernel) (by decide) ?_
      refine lv_aload_n hx hb dX6_isOf_49 rfl (lv_at hl 0 rfl) ?_
      refine va_instNo (C := RX6) hx hb hown (hts (.classLink RX6 21 "BeatenInstead$High") (List.mem_of_getElem? (i := 4) rfl)) (hN.c (q := ("BeatenInstead$Prince", "BeatenInstead$High")) 14 rfl) (va_recv hK hP (ci := 6) (q0 := 0) rfl rfl) dX6_isOf_50 ?_
      exact hret _ _ _ dX6_isOf_53 rfl (zB.f (by decide))
  · skip
    rcases z_k5 hk with rfl | rfl | rfl | rfl | rfl
    · skip
      refine lv_iload_n hx hb dX6_isOf_0 rfl (lv_at hl 1 rfl) ?_
      refine lv_tableIn (tgt := 32) (off := 31) hx hb dX6_isOf_1 (by decide +kernel) (by decide +kernel) (by decide +kernel) (by decide) ?_
      refine lv_iconst (v := 1) hx hb dX6_isOf_32 (by decide) ?_
      exact hret _ _ _ dX6_isOf_33 rfl (zB.t (by decide))
    · skip
      refine lv_iload_n hx hb dX6_isOf_0 rfl (lv_at hl 1 rfl) ?_
      refine lv_tableIn (tgt := 34) (off := 33) hx hb dX6_isOf_1 (by decide +kernel) (by decide +kernel) (by decide +kernel) (by decide) ?_
      refine lv_aload_n hx hb dX6_isOf_34 rfl (lv_at hl 0 rfl) ?_
      refine va_instS hx hb hown (hts (.classLink RX6 15 "BeatenInstead$Proud") (List.mem_of_getElem? (i := 1) rfl)) (hK.1 7 (RX7, TX7, 1) rfl).2 (va_recv hK hP (ci := 7) (q0 := 0) rfl rfl) dX6_isOf_35 ?_
      exact hret _ _ _ dX6_isOf_38 rfl (zB.t (by decide))
    · skip
      refine lv_iload_n hx hb dX6_isOf_0 rfl (lv_at hl 1 rfl) ?_
      refine lv_tableIn (tgt := 39) (off := 38) hx hb dX6_isOf_1 (by decide +kernel) (by decide +kernel) (by decide +kernel) (by decide) ?_
      refine lv_aload_n hx hb dX6_isOf_39 rfl (lv_at hl 0 rfl) ?_
      refine va_instNo (C := RX7) hx hb hown (hts (.classLink RX6 17 "BeatenInstead$Cruel") (List.mem_of_getElem? (i := 2) rfl)) (hN.c (q := ("BeatenInstead$Proud", "BeatenInstead$Cruel")) 3 rfl) (va_recv hK hP (ci := 7) (q0 := 0) rfl rfl) dX6_isOf_40 ?_
      exact hret _ _ _ dX6_isOf_43 rfl (zB.f (by decide))
    · skip
      refine lv_iload_n hx hb dX6_isOf_0 rfl (lv_at hl 1 rfl) ?_
      refine lv_tableIn (tgt := 44) (off := 43) hx hb dX6_isOf_1 (by decide +kernel) (by decide +kernel) (by decide +kernel) (by decide) ?_
      refine lv_aload_n hx hb dX6_isOf_44 rfl (lv_at hl 0 rfl) ?_
      refine va_instNo (C := RX7) hx hb hown (hts (.classLink RX6 19 "BeatenInstead$Lazy") (List.mem_of_getElem? (i := 3) rfl)) (hN.c (q := ("BeatenInstead$Proud", "BeatenInstead$Lazy")) 7 rfl) (va_recv hK hP (ci := 7) (q0 := 0) rfl rfl) dX6_isOf_45 ?_
      exact hret _ _ _ dX6_isOf_48 rfl (zB.f (by decide))
    · skip
      refine lv_iload_n hx hb dX6_isOf_0 rfl (lv_at hl 1 rfl) ?_
      refine lv_tableOut (tgt := 49) hx hb dX6_isOf_1 (by decide +kernel) (by decide) ?_
      refine lv_aload_n hx hb dX6_isOf_49 rfl (lv_at hl 0 rfl) ?_
      refine va_instNo (C := RX7) hx hb hown (hts (.classLink RX6 21 "BeatenInstead$High") (List.mem_of_getElem? (i := 4) rfl)) (hN.c (q := ("BeatenInstead$Proud", "BeatenInstead$High")) 11 rfl) (va_recv hK hP (ci := 7) (q0 := 0) rfl rfl) dX6_isOf_50 ?_
      exact hret _ _ _ dX6_isOf_53 rfl (zB.f (by decide))
  · skip
    rcases z_k5 hk with rfl | rfl | rfl | rfl | rfl
    · skip
      refine lv_iload_n hx hb dX6_isOf_0 rfl (lv_at hl 1 rfl) ?_
      refine lv_tableIn (tgt := 32) (off := 31) hx hb dX6_isOf_1 (by decide +kernel) (by decide +kernel) (by decide +kernel) (by decide) ?_
      refine lv_iconst (v := 1) hx hb dX6_isOf_32 (by decide) ?_
      exact hret _ _ _ dX6_isOf_33 rfl (zB.t (by decide))
    · skip
      refine lv_iload_n hx hb dX6_isOf_0 rfl (lv_at hl 1 rfl) ?_
      refine lv_tableIn (tgt := 34) (off := 33) hx hb dX6_isOf_1 (by decide +kernel) (by decide +kernel) (by decide +kernel) (by decide) ?_
      refine lv_aload_n hx hb dX6_isOf_34 rfl (lv_at hl 0 rfl) ?_
      refine va_instNo (C := RX1) hx hb hown (hts (.classLink RX6 15 "BeatenInstead$Proud") (List.mem_of_getElem? (i := 1) rfl)) (hN.c (q := ("BeatenInstead$Cruel", "BeatenInstead$Proud")) 0 rfl) (va_recv hK hP (ci := 1) (q0 := 0) rfl rfl) dX6_isOf_35 ?_
      exact hret _ _ _ dX6_isOf_38 rfl (zB.f (by decide))
    · skip
      refine lv_iload_n hx hb dX6_isOf_0 rfl (lv_at hl 1 rfl) ?_
      refine lv_tableIn (tgt := 39) (off := 38) hx hb dX6_isOf_1 (by decide +kernel) (by decide +kernel) (by decide +kernel) (by decide) ?_
      refine lv_aload_n hx hb dX6_isOf_39 rfl (lv_at hl 0 rfl) ?_
      refine va_instS hx hb hown (hts (.classLink RX6 17 "BeatenInstead$Cruel") (List.mem_of_getElem? (i := 2) rfl)) (hK.1 1 (RX1, TX1, 1) rfl).2 (va_recv hK hP (ci := 1) (q0 := 0) rfl rfl) dX6_isOf_40 ?_
      exact hret _ _ _ dX6_isOf_43 rfl (zB.t (by decide))
    · skip
      refine lv_iload_n hx hb dX6_isOf_0 rfl (lv_at hl 1 rfl) ?_
      refine lv_tableIn (tgt := 44) (off := 43) hx hb dX6_isOf_1 (by decide +kernel) (by decide +kernel) (by decide +kernel) (by decide) ?_
      refine lv_aload_n hx hb dX6_isOf_44 rfl (lv_at hl 0 rfl) ?_
      refine va_instNo (C := RX1) hx hb hown (hts (.classLink RX6 19 "BeatenInstead$Lazy") (List.mem_of_getElem? (i := 3) rfl)) (hN.c (q := ("BeatenInstead$Cruel", "BeatenInstead$Lazy")) 8 rfl) (va_recv hK hP (ci := 1) (q0 := 0) rfl rfl) dX6_isOf_45 ?_
      exact hret _ _ _ dX6_isOf_48 rfl (zB.f (by decide))
    · skip
      refine lv_iload_n hx hb dX6_isOf_0 rfl (lv_at hl 1 rfl) ?_
      refine lv_tableOut (tgt := 49) hx hb dX6_isOf_1 (by decide +kernel) (by decide) ?_
      refine lv_aload_n hx hb dX6_isOf_49 rfl (lv_at hl 0 rfl) ?_
      refine va_instNo (C := RX1) hx hb hown (hts (.classLink RX6 21 "BeatenInstead$High") (List.mem_of_getElem? (i := 4) rfl)) (hN.c (q := ("BeatenInstead$Cruel", "BeatenInstead$High")) 12 rfl) (va_recv hK hP (ci := 1) (q0 := 0) rfl rfl) dX6_isOf_50 ?_
      exact hret _ _ _ dX6_isOf_53 rfl (zB.f (by decide))
  · skip
    rcases z_k5 hk with rfl | rfl | rfl | rfl | rfl
    · skip
      refine lv_iload_n hx hb dX6_isOf_0 rfl (lv_at hl 1 rfl) ?_
      refine lv_tableIn (tgt := 32) (off := 31) hx hb dX6_isOf_1 (by decide +kernel) (by decide +kernel) (by decide +kernel) (by decide) ?_
      refine lv_iconst (v := 1) hx hb dX6_isOf_32 (by decide) ?_
      exact hret _ _ _ dX6_isOf_33 rfl (zB.t (by decide))
    · skip
      refine lv_iload_n hx hb dX6_isOf_0 rfl (lv_at hl 1 rfl) ?_
      refine lv_tableIn (tgt := 34) (off := 33) hx hb dX6_isOf_1 (by decide +kernel) (by decide +kernel) (by decide +kernel) (by decide) ?_
      refine lv_aload_n hx hb dX6_isOf_34 rfl (lv_at hl 0 rfl) ?_
      refine va_instNo (C := RX3) hx hb hown (hts (.classLink RX6 15 "BeatenInstead$Proud") (List.mem_of_getElem? (i := 1) rfl)) (hN.c (q := ("BeatenInstead$Lazy", "BeatenInstead$Proud")) 1 rfl) (va_recv hK hP (ci := 3) (q0 := 0) rfl rfl) dX6_isOf_35 ?_
      exact hret _ _ _ dX6_isOf_38 rfl (zB.f (by decide))
    · skip
      refine lv_iload_n hx hb dX6_isOf_0 rfl (lv_at hl 1 rfl) ?_
      refine lv_tableIn (tgt := 39) (off := 38) hx hb dX6_isOf_1 (by decide +kernel) (by decide +kernel) (by decide +kernel) (by decide) ?_
      refine lv_aload_n hx hb dX6_isOf_39 rfl (lv_at hl 0 rfl) ?_
      refine va_instNo (C := RX3) hx hb hown (hts (.classLink RX6 17 "BeatenInstead$Cruel") (List.mem_of_getElem? (i := 2) rfl)) (hN.c (q := ("BeatenInstead$Lazy", "BeatenInstead$Cruel")) 4 rfl) (va_recv hK hP (ci := 3) (q0 := 0) rfl rfl) dX6_isOf_40 ?_
      exact hret _ _ _ dX6_isOf_43 rfl (zB.f (by decide))
    · skip
      refine lv_iload_n hx hb dX6_isOf_0 rfl (lv_at hl 1 rfl) ?_
      refine lv_tableIn (tgt := 44) (off := 43) hx hb dX6_isOf_1 (by decide +kernel) (by decide +kernel) (by decide +kernel) (by decide) ?_
      refine lv_aload_n hx hb dX6_isOf_44 rfl (lv_at hl 0 rfl) ?_
      refine va_instS hx hb hown (hts (.classLink RX6 19 "BeatenInstead$Lazy") (List.mem_of_getElem? (i := 3) rfl)) (hK.1 3 (RX3, TX3, 1) rfl).2 (va_recv hK hP (ci := 3) (q0 := 0) rfl rfl) dX6_isOf_45 ?_
      exact hret _ _ _ dX6_isOf_48 rfl (zB.t (by decide))
    · skip
      refine lv_iload_n hx hb dX6_isOf_0 rfl (lv_at hl 1 rfl) ?_
      refine lv_tableOut (tgt := 49) hx hb dX6_isOf_1 (by decide +kernel) (by decide) ?_
      refine lv_aload_n hx hb dX6_isOf_49 rfl (lv_at hl 0 rfl) ?_
      refine va_instNo (C := RX3) hx hb hown (hts (.classLink RX6 21 "BeatenInstead$High") (List.mem_of_getElem? (i := 4) rfl)) (hN.c (q := ("BeatenInstead$Lazy", "BeatenInstead$High")) 13 rfl) (va_recv hK hP (ci := 3) (q0 := 0) rfl rfl) dX6_isOf_50 ?_
      exact hret _ _ _ dX6_isOf_53 rfl (zB.f (by decide))
  · skip
    rcases z_k5 hk with rfl | rfl | rfl | rfl | rfl
    · skip
      refine lv_iload_n hx hb dX6_isOf_0 rfl (lv_at hl 1 rfl) ?_
      refine lv_tableIn (tgt := 32) (off := 31) hx hb dX6_isOf_1 (by decide +kernel) (by decide +kernel) (by decide +kernel) (by decide) ?_
      refine lv_iconst (v := 1) hx hb dX6_isOf_32 (by decide) ?_
      exact hret _ _ _ dX6_isOf_33 rfl (zB.t (by decide))
    · skip
      refine lv_iload_n hx hb dX6_isOf_0 rfl (lv_at hl 1 rfl) ?_
      refine lv_tableIn (tgt := 34) (off := 33) hx hb dX6_isOf_1 (by decide +kernel) (by decide +kernel) (by decide +kernel) (by decide) ?_
      refine lv_aload_n hx hb dX6_isOf_34 rfl (lv_at hl 0 rfl) ?_
      refine va_instY (C := RX2) hx hb hown (hts (.classLink RX6 15 "BeatenInstead$Proud") (List.mem_of_getElem? (i := 1) rfl)) (hN.n (w := .castable "BeatenInstead$High" "BeatenInstead$Proud") 76 rfl) (va_recv hK hP (ci := 2) (q0 := 0) rfl rfl) dX6_isOf_35 ?_
      exact hret _ _ _ dX6_isOf_38 rfl (zB.t (by decide))
    · skip
      refine lv_iload_n hx hb dX6_isOf_0 rfl (lv_at hl 1 rfl) ?_
      refine lv_tableIn (tgt := 39) (off := 38) hx hb dX6_isOf_1 (by decide +kernel) (by decide +kernel) (by decide +kernel) (by decide) ?_
      refine lv_aload_n hx hb dX6_isOf_39 rfl (lv_at hl 0 rfl) ?_
      refine va_instNo (C := RX2) hx hb hown (hts (.classLink RX6 17 "BeatenInstead$Cruel") (List.mem_of_getElem? (i := 2) rfl)) (hN.c (q := ("BeatenInstead$High", "BeatenInstead$Cruel")) 5 rfl) (va_recv hK hP (ci := 2) (q0 := 0) rfl rfl) dX6_isOf_40 ?_
      exact hret _ _ _ dX6_isOf_43 rfl (zB.f (by decide))
    · skip
      refine lv_iload_n hx hb dX6_isOf_0 rfl (lv_at hl 1 rfl) ?_
      refine lv_tableIn (tgt := 44) (off := 43) hx hb dX6_isOf_1 (by decide +kernel) (by decide +kernel) (by decide +kernel) (by decide) ?_
      refine lv_aload_n hx hb dX6_isOf_44 rfl (lv_at hl 0 rfl) ?_
      refine va_instNo (C := RX2) hx hb hown (hts (.classLink RX6 19 "BeatenInstead$Lazy") (List.mem_of_getElem? (i := 3) rfl)) (hN.c (q := ("BeatenInstead$High", "BeatenInstead$Lazy")) 9 rfl) (va_recv hK hP (ci := 2) (q0 := 0) rfl rfl) dX6_isOf_45 ?_
      exact hret _ _ _ dX6_isOf_48 rfl (zB.f (by decide))
    · skip
      refine lv_iload_n hx hb dX6_isOf_0 rfl (lv_at hl 1 rfl) ?_
      refine lv_tableOut (tgt := 49) hx hb dX6_isOf_1 (by decide +kernel) (by decide) ?_
      refine lv_aload_n hx hb dX6_isOf_49 rfl (lv_at hl 0 rfl) ?_
      refine va_instS hx hb hown (hts (.classLink RX6 21 "BeatenInstead$High") (List.mem_of_getElem? (i := 4) rfl)) (hK.1 2 (RX2, TX2, 1) rfl).2 (va_recv hK hP (ci := 2) (q0 := 0) rfl rfl) dX6_isOf_50 ?_
      exact hret _ _ _ dX6_isOf_53 rfl (zB.t (by decide))
