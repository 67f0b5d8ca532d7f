theorem zi_X5_init_X5 : ∀ w ∈ wsX50, w ∈ wsX5_init := fun _ h => List.mem_cons_of_mem _ (List.mem_append_right _ (h))
abbrev rm_X5_init : Room := { frames := 1, cells := 1, slots := 18, locals := 12 }
set_option maxHeartbeats 4000000 in
set_option maxRecDepth 100000 in
theorem c_X5_init (l : Launch) (D : va_G) (cI cB cP : ClassId) (h0 : Nat)   : zVv (S := Nat) l D cI cB cP yX5_init wsX5_init rm_X5_init [.ref h0] [(h0, .inr (5, [.null, .int 0]))] ([]) 1 18 (fun _ => True) (fun u => [(h0, .inr (5, [.ref u, .int 0])), (u, .inl (cI, 18, .inl (fun q_ => nI ((fun _ => 0) q_))))]) := by
  refine zVv_of (cc := cX5_init) (maxL := 1) (by decide) rfl (Nat.le_of_ble_eq_true rfl) ?_
  intro p e s m args below meth c ls Q A H locs hx hb hml hts hown hin hP hD hS hA hRk hRA hK hN hl hret
  have hin : meth.name = "<init>" := hin
  have hown : s.vm.findClass RX5 = some m.cls := hown
  have hl : lv_has ls 1 [(0, .ref h0)] := hl
  refine lv_aload_n hx hb dX5_init_0 rfl (lv_at hl 0 rfl) ?_
  refine W.objInit hx hb hown (hts (.methodLink RX5 5 objectInit) (List.mem_of_getElem? (i := 1) rfl)) (hts (.instanceMethod objectInit) (List.mem_of_getElem? (i := 2) rfl)) (hts _ (List.mem_of_getElem? (i := 3) rfl)) rfl (by rw [hml]; exact hl.1) rfl dX5_init_1 (Nat.le_of_ble_eq_true rfl) (Nat.le_of_ble_eq_true rfl) ?_
  refine W.eq (g2 := F0 m 4 ls []) rfl ?_
  refine lv_aload_n hx hb dX5_init_4 rfl (lv_at hl 0 rfl) ?_
  refine lv_bipush (v := (18)) hx hb dX5_init_5 (by decide) ?_
  refine z_newa (n := 18) (N' := 18) hx hb (hts (.arrayClass .int) (List.mem_of_getElem? (i := 4) rfl)) hK hP hD hS hA (by decide) (by decide) (by decide) (Nat.le_of_ble_eq_true rfl) (Nat.le_of_ble_eq_true rfl) dX5_init_7 (fun q_1 H hP hD hS => ?_)
  have hP : va_P D vwCl [(h0, .inr (5, [.null, .int 0])), (q_1, .inl (cI, 18, .inl (fun q_ => nI ((fun _ => 0) q_))))] H := hP
  have hD : va_D A [(h0, .inr (5, [.null, .int 0])), (q_1, .inl (cI, 18, .inl (fun q_ => nI ((fun _ => 0) q_))))] := hD
  refine va_putF (D := D) (ci := 5) (v := .ref q_1) (ty := .array .int) (C := RX5) (T := TX5) (N := 2) hx hb hts zi_X5_init_X5 tyX5 tyX5_ok nmX5 hown hK hP hD hS 0 rfl rfl 0 (by decide) (hts (.fieldLink RX5 11 "BeatenInstead$Page" "codes" "[I") (List.mem_of_getElem? (i := 5) rfl)) (fun _ h9 => h9) rfl hin rfl rfl rfl rfl (Nat.le_of_ble_eq_true rfl) dX5_init_9 (fun H locs hP hD hS => ?_)
  have hP : va_P D vwCl [(h0, .inr (5, [.ref q_1, .int 0])), (q_1, .inl (cI, 18, .inl (fun q_ => nI ((fun _ => 0) q_))))] H := hP
  have hD : va_D A [(h0, .inr (5, [.ref q_1, .int 0])), (q_1, .inl (cI, 18, .inl (fun q_ => nI ((fun _ => 0) q_))))] := hD
  refine lv_aload_n hx hb dX5_init_12 rfl (lv_at hl 0 rfl) ?_
  refine lv_iconst (v := 0) hx hb dX5_init_13 (by decide) ?_
  refine va_put (D := D) (ci := 5) (v := .int 0) (ty := .int) (C := RX5) (T := TX5) (N := 2) hx hb hts zi_X5_init_X5 tyX5 tyX5_ok nmX5 hown hK hP hD hS 0 rfl rfl 1 (by decide) (hts (.fieldLink RX5 15 "BeatenInstead$Page" "size" "I") (List.mem_of_getElem? (i := 6) rfl)) (fun _ h9 => h9) rfl rfl rfl rfl (Nat.le_of_ble_eq_true rfl) dX5_init_14 (fun H locs hP hD hS => ?_)
  have hP : va_P D vwCl [(h0, .inr (5, [.ref q_1, .int 0])), (q_1, .inl (cI, 18, .inl (fun q_ => nI ((fun _ => 0) q_))))] H := hP
  have hD : va_D A [(h0, .inr (5, [.ref q_1, .int 0])), (q_1, .inl (cI, 18, .inl (fun q_ => nI ((fun _ => 0) q_))))] := hD
  exact hret _ _ (q_1) _ _ dX5_init_17 trivial hP hD hS

theorem zi_X9_init_X9 : ∀ w ∈ wsX90, w ∈ wsX9_init := fun _ h => List.mem_cons_of_mem _ (List.mem_append_right _ (h))
abbrev rm_X9_init : Room := { frames := 1, cells := 2, slots := 10, locals := 12 }
set_option maxHeartbeats 4000000 in
set_option maxRecDepth 100000 in
theorem c_X9_init (l : Launch) (D : va_G) (cI cB cP : ClassId) (h0 : Nat)   : zVv (S := Nat × Nat) l D cI cB cP yX9_init wsX9_init rm_X9_init [.ref h0] [(h0, .inr (9, [.null, .null, .int 0, .int 0]))] ([]) 2 10 (fun _ => True) (fun u => [(h0, .inr (9, [.ref u.1, .ref u.2, .int 0, .int 0])), (u.1, .inl (cI, 5, .inl (fun q_ => nI ((fun _ => 0) q_)))), (u.2, .inl (cI, 5, .inl (fun q_ => nI ((fun _ => 0) q_))))]) := by
  refine zVv_of (cc := cX9_init) (maxL := 1) (by decide) rfl (Nat.le_of_ble_eq_true rfl) ?_
  intro p e s m args below meth c ls Q A H locs hx hb hml hts hown hin hP hD hS hA hRk hRA hK hN hl hret
  have hin : meth.name = "<init>" := hin
  have hown : s.vm.findClass RX9 = some m.cls := hown
  have hl : lv_has ls 1 [(0, .ref h0)] := hl
  refine lv_aload_n hx hb dX9_init_0 rfl (lv_at hl 0 rfl) ?_
  refine W.objInit hx hb hown (hts (.methodLink RX9 3 objectInit) (List.mem_of_getElem? (i := 1) rfl)) (hts (.instanceMethod objectInit) (List.mem_of_getElem? (i := 2) rfl)) (hts _ (List.mem_of_getElem? (i := 3) rfl)) rfl (by rw [hml]; exact hl.1) rfl dX9_init_1 (Nat.le_of_ble_eq_true rfl) (Nat.le_of_ble_eq_true rfl) ?_
  refine W.eq (g2 := F0 m 4 ls []) rfl ?_
  refine lv_aload_n hx hb dX9_init_4 rfl (lv_at hl 0 rfl) ?_
  refine lv_iconst (v := 5) hx hb dX9_init_5 (by decide) ?_
  refine z_newa (n := 5) (N' := 5) hx hb (hts (.arrayClass .int) (List.mem_of_getElem? (i := 4) rfl)) hK hP hD hS hA (by decide) (by decide) (by decide) (Nat.le_of_ble_eq_true rfl) (Nat.le_of_ble_eq_true rfl) dX9_init_6 (fun q_1 H hP hD hS => ?_)
  have hP : va_P D vwCl [(h0, .inr (9, [.null, .null, .int 0, .int 0])), (q_1, .inl (cI, 5, .inl (fun q_ => nI ((fun _ => 0) q_))))] H := hP
  have hD : va_D A [(h0, .inr (9, [.null, .null, .int 0, .int 0])), (q_1, .inl (cI, 5, .inl (fun q_ => nI ((fun _ => 0) q_))))] := hD
  refine va_putF (D := D) (ci := 9) (v := .ref q_1) (ty := .array .int) (C := RX9) (T := TX9) (N := 4) hx hb hts zi_X9_init_X9 tyX9 tyX9_ok nmX9 hown hK hP hD hS 0 rfl rfl 0 (by decide) (hts (.fieldLink RX9 9 "BeatenInstead$Text" "hard" "[I") (List.mem_of_getElem? (i := 5) rfl)) (fun _ h9 => h9) rfl hin rfl rfl rfl rfl (Nat.le_of_ble_eq_true rfl) dX9_init_8 (fun H locs hP hD hS => ?_)
  have hP : va_P D vwCl [(h0, .inr (9, [.ref q_1, .null, .int 0, .int 0])), (q_1, .inl (cI, 5, .inl (fun q_ => nI ((fun _ => 0) q_))))] H := hP
  have hD : va_D A [(h0, .inr (9, [.ref q_1, .null, .int 0, .int 0])), (q_1, .inl (cI, 5, .inl (fun q_ => nI ((fun _ => 0) q_))))] := hD
  refine lv_aload_n hx hb dX9_init_11 rfl (lv_at hl 0 rfl) ?_
  refine lv_iconst (v := 5) hx hb dX9_init_12 (by decide) ?_
  refine z_newa (n := 5) (N' := 5) hx hb (hts (.arrayClass .int) (List.mem_of_getElem? (i := 4) rfl)) hK hP hD hS hA (by decide) (by decide) (by decide) (Nat.le_of_ble_eq_true rfl) (Nat.le_of_ble_eq_true rfl) dX9_init_13 (fun q_2 H hP hD hS => ?_)
  have hP : va_P D vwCl [(h0, .inr (9, [.ref q_1, .null, .int 0, .int 0])), (q_1, .inl (cI, 5, .inl (fun q_ => nI ((fun _ => 0) q_)))), (q_2, .inl (cI, 5, .inl (fun q_ => nI ((fun _ => 0) q_))))] H := hP
  have hD : va_D A [(h0, .inr (9, [.ref q_1, .null, .int 0, .int 0])), (q_1, .inl (cI, 5, .inl (fun q_ => nI ((fun _ => 0) q_)))), (q_2, .inl (cI, 5, .inl (fun q_ => nI ((fun _ => 0) q_))))] := hD
  refine va_putF (D := D) (ci := 9) (v := .ref q_2) (ty := .array .int) (C := RX9) (T := TX9) (N := 4) hx hb hts zi_X9_init_X9 tyX9 tyX9_ok nmX9 hown hK hP hD hS 0 rfl rfl 1 (by decide) (hts (.fieldLink RX9 15 "BeatenInstead$Text" "blows" "[I") (List.mem_of_getElem? (i := 6) rfl)) (fun _ h9 => h9) rfl hin rfl rfl rfl rfl (Nat.le_of_ble_eq_true rfl) dX9_init_15 (fun H locs hP hD hS => ?_)
  have hP : va_P D vwCl [(h0, .inr (9, [.ref q_1, .ref q_2, .int 0, .int 0])), (q_1, .inl (cI, 5, .inl (fun q_ => nI ((fun _ => 0) q_)))), (q_2, .inl (cI, 5, .inl (fun q_ => nI ((fun _ => 0) q_))))] H := hP
  have hD : va_D A [(h0, .inr (9, [.ref q_1, .ref q_2, .int 0, .int 0])), (q_1, .inl (cI, 5, .inl (fun q_ => nI ((fun _ => 0) q_)))), (q_2, .inl (cI, 5, .inl (fun q_ => nI ((fun _ => 0) q_))))] := hD
  refine lv_aload_n hx hb dX9_init_18 rfl (lv_at hl 0 rfl) ?_
  refine lv_iconst (v := 0) hx hb dX9_init_19 (by decide) ?_
  refine va_put (D := D) (ci := 9) (v := .int 0) (ty := .int) (C := RX9) (T := TX9) (N := 4) hx hb hts zi_X9_init_X9 tyX9 tyX9_ok nmX9 hown hK hP hD hS 0 rfl rfl 2 (by decide) (hts (.fieldLink RX9 18 "BeatenInstead$Text" "lessons" "I") (List.mem_of_getElem? (i := 7) rfl)) (fun _ h9 => h9) rfl rfl rfl rfl (Nat.le_of_ble_eq_true rfl) dX9_init_20 (fun H locs hP hD hS => ?_)
  have hP : va_P D vwCl [(h0, .inr (9, [.ref q_1, .ref q_2, .int 0, .int 0])), (q_1, .inl (cI, 5, .inl (fun q_ => nI ((fun _ => 0) q_)))), (q_2, .inl (cI, 5, .inl (fun q_ => nI ((fun _ => 0) q_))))] H := hP
  have hD : va_D A [(h0, .inr (9, [.ref q_1, .ref q_2, .int 0, .int 0])), (q_1, .inl (cI, 5, .inl (fun q_ => nI ((fun _ => 0) q_)))), (q_2, .inl (cI, 5, .inl (fun q_ => nI ((fun _ => 0) q_))))] := hD
  refine lv_aload_n hx hb dX9_init_23 rfl (lv_at hl 0 rfl) ?_
  refine lv_iconst (v := 0) hx hb dX9_init_24 (by decide) ?_
  refine va_put (D := D) (ci := 9) (v := .int 0) (ty := .int) (C := RX9) (T := TX9) (N := 4) hx hb hts zi_X9_init_X9 tyX9 tyX9_ok nmX9 hown hK hP hD hS 0 rfl rfl 3 (by decide) (hts (.fieldLink RX9 22 "BeatenInstead$Text" "limit" "I") (List.mem_of_getElem? (i := 8) rfl)) (fun _ h9 => h9) rfl rfl rfl rfl (Nat.le_of_ble_eq_true rfl) dX9_init_25 (fun H locs hP hD hS => ?_)
  have hP : va_P D vwCl [(h0, .inr (9, [.ref q_1, .ref q_2, .int 0, .int 0])), (q_1, .inl (cI, 5, .inl (fun q_ => nI ((fun _ => 0) q_)))), (q_2, .inl (cI, 5, .inl (fun q_ => nI ((fun _ => 0) q_))))] H := hP
  have hD : va_D A [(h0, .inr (9, [.ref q_1, .ref q_2, .int 0, .int 0])), (q_1, .inl (cI, 5, .inl (fun q_ => nI ((fun _ => 0) q_)))), (q_2, .inl (cI, 5, .inl (fun q_ => nI ((fun _ => 0) q_))))] := hD
  exact hret _ _ ((q_1, q_2)) _ _ dX9_init_28 trivial hP hD hS

theorem zi_X8_init_X8 : ∀ w ∈ wsX80, w ∈ wsX8_init := fun _ h => List.mem_cons_of_mem _ (List.mem_append_right _ (h))
abbrev rm_X8_init : Room := { frames := 1, cells := 7, slots := 36, locals := 12 }
set_option maxHeartbeats 4000000 in
set_option maxRecDepth 100000 in
theorem c_X8_init (l : Launch) (D : va_G) (cI cB cP : ClassId) (h0 : Nat)   : zVv (S := Nat × Nat × Nat × Nat × Nat × Nat × Nat) l D cI cB cP yX8_init wsX8_init rm_X8_init [.ref h0] [(h0, .inr (8, [.int 0, .null, .null, .null, .null, .int 0, .null, .null, .null]))] ([]) 7 36 (fun _ => True) (fun u => [(h0, .inr (8, [.int 0, .ref u.1, .ref u.2.1, .ref u.2.2.1, .ref u.2.2.2.1, .int 0, .ref u.2.2.2.2.1, .ref u.2.2.2.2.2.1, .ref u.2.2.2.2.2.2])), (u.1, .inl (cI, 9, .inl (fun q_ => nI ((fun _ => 0) q_)))), (u.2.1, .inl (cI, 3, .inl (fun q_ => nI ((fun _ => 0) q_)))), (u.2.2.1, .inl (cI, 3, .inl (fun q_ => nI ((fun _ => 0) q_)))), (u.2.2.2.1, .inl (cI, 3, .inl (fun q_ => nI ((fun _ => 0) q_)))), (u.2.2.2.2.1, .inl (cI, 6, .inl (fun q_ => nI ((fun _ => 0) q_)))), (u.2.2.2.2.2.1, .inl (cI, 6, .inl (fun q_ => nI ((fun _ => 0) q_)))), (u.2.2.2.2.2.2, .inl (cI, 6, .inl (fun q_ => nI ((fun _ => 0) q_))))]) := by
  refine zVv_of (cc := cX8_init) (maxL := 1) (by decide) rfl (Nat.le_of_ble_eq_true rfl) ?_
  intro p e s m args below meth c ls Q A H locs hx hb hml hts hown hin hP hD hS hA hRk hRA hK hN hl hret
  have hin : meth.name = "<init>" := hin
  have hown : s.vm.findClass RX8 = some m.cls := hown
  have hl : lv_has ls 1 [(0, .ref h0)] := hl
  refine lv_aload_n hx hb dX8_init_0 rfl (lv_at hl 0 rfl) ?_
  refine W.objInit hx hb hown (hts (.methodLink RX8 3 objectInit) (List.mem_of_getElem? (i := 1) rfl)) (hts (.instanceMethod objectInit) (List.mem_of_getElem? (i := 2) rfl)) (hts _ (List.mem_of_getElem? (i := 3) rfl)) rfl (by rw [hml]; exact hl.1) rfl dX8_init_1 (Nat.le_of_ble_eq_true rfl) (Nat.le_of_ble_eq_true rfl) ?_
  refine W.eq (g2 := F0 m 4 ls []) rfl ?_
  refine lv_aload_n hx hb dX8_init_4 rfl (lv_at hl 0 rfl) ?_
  refine lv_iconst (v := 0) hx hb dX8_init_5 (by decide) ?_
  refine va_put (D := D) (ci := 8) (v := .int 0) (ty := .int) (C := RX8) (T := TX8) (N := 9) hx hb hts zi_X8_init_X8 tyX8 tyX8_ok nmX8 hown hK hP hD hS 0 rfl rfl 0 (by decide) (hts (.fieldLink RX8 9 "BeatenInstead$Standing" "princes" "I") (List.mem_of_getElem? (i := 4) rfl)) (fun _ h9 => h9) rfl rfl rfl rfl (Nat.le_of_ble_eq_true rfl) dX8_init_6 (fun H locs hP hD hS => ?_)
  have hP : va_P D vwCl [(h0, .inr (8, [.int 0, .null, .null, .null, .null, .int 0, .null, .null, .null]))] H := hP
  have hD : va_D A [(h0, .inr (8, [.int 0, .null, .null, .null, .null, .int 0, .null, .null, .null]))] := hD
  refine lv_aload_n hx hb dX8_init_9 rfl (lv_at hl 0 rfl) ?_
  refine lv_bipush (v := (9)) hx hb dX8_init_10 (by decide) ?_
  refine z_newa (n := 9) (N' := 9) hx hb (hts (.arrayClass .int) (List.mem_of_getElem? (i := 5) rfl)) hK hP hD hS hA (by decide) (by decide) (by decide) (Nat.le_of_ble_eq_true rfl) (Nat.le_of_ble_eq_true rfl) dX8_init_12 (fun q_1 H hP hD hS => ?_)
  have hP : va_P D vwCl [(h0, .inr (8, [.int 0, .null, .null, .null, .null, .int 0, .null, .null, .null])), (q_1, .inl (cI, 9, .inl (fun q_ => nI ((fun _ => 0) q_))))] H := hP
  have hD : va_D A [(h0, .inr (8, [.int 0, .null, .null, .null, .null, .int 0, .null, .null, .null])), (q_1, .inl (cI, 9, .inl (fun q_ => nI ((fun _ => 0) q_))))] := hD
  refine va_putF (D := D) (ci := 8) (v := .ref q_1) (ty := .array .int) (C := RX8) (T := TX8) (N := 9) hx hb hts zi_X8_init_X8 tyX8 tyX8_ok nmX8 hown hK hP hD hS 0 rfl rfl 1 (by decide) (hts (.fieldLink RX8 15 "BeatenInstead$Standing" "fond" "[I") (List.mem_of_getElem? (i := 6) rfl)) (fun _ h9 => h9) rfl hin rfl rfl rfl rfl (Nat.le_of_ble_eq_true rfl) dX8_init_14 (fun H locs hP hD hS => ?_)
  have hP : va_P D vwCl [(h0, .inr (8, [.int 0, .ref q_1, .null, .null, .null, .int 0, .null, .null, .null])), (q_1, .inl (cI, 9, .inl (fun q_ => nI ((fun _ => 0) q_))))] H := hP
  have hD : va_D A [(h0, .inr (8, [.int 0, .ref q_1, .null, .null, .null, .int 0, .null, .null, .null])), (q_1, .inl (cI, 9, .inl (fun q_ => nI ((fun _ => 0) q_))))] := hD
  refine lv_aload_n hx hb dX8_init_17 rfl (lv_at hl 0 rfl) ?_
  refine lv_iconst (v := 3) hx hb dX8_init_18 (by decide) ?_
  refine z_newa (n := 3) (N' := 3) hx hb (hts (.arrayClass .int) (List.mem_of_getElem? (i := 5) rfl)) hK hP hD hS hA (by decide) (by decide) (by decide) (Nat.le_of_ble_eq_true rfl) (Nat.le_of_ble_eq_true rfl) dX8_init_19 (fun q_2 H hP hD hS => ?_)
  have hP : va_P D vwCl [(h0, .inr (8, [.int 0, .ref q_1, .null, .null, .null, .int 0, .null, .null, .null])), (q_1, .inl (cI, 9, .inl (fun q_ => nI ((fun _ => 0) q_)))), (q_2, .inl (cI, 3, .inl (fun q_ => nI ((fun _ => 0) q_))))] H := hP
  have hD : va_D A [(h0, .inr (8, [.int 0, .ref q_1, .null, .null, .null, .int 0, .null, .null, .null])), (q_1, .inl (cI, 9, .inl (fun q_ => nI ((fun _ => 0) q_)))), (q_2, .inl (cI, 3, .inl (fun q_ => nI ((fun _ => 0) q_))))] := hD
  refine va_putF (D := D) (ci := 8) (v := .ref q_2) (ty := .array .int) (C := RX8) (T := TX8) (N := 9) hx hb hts zi_X8_init_X8 tyX8 tyX8_ok nmX8 hown hK hP hD hS 0 rfl rfl 2 (by decide) (hts (.fieldLink RX8 19 "BeatenInstead$Standing" "boys" "[I") (List.mem_of_getElem? (i := 7) rfl)) (fun _ h9 => h9) rfl hin rfl rfl rfl rfl (Nat.le_of_ble_eq_true rfl) dX8_init_21 (fun H locs hP hD hS => ?_)
  have hP : va_P D vwCl [(h0, .inr (8, [.int 0, .ref q_1, .ref q_2, .null, .null, .int 0, .null, .null, .null])), (q_1, .inl (cI, 9, .inl (fun q_ => nI ((fun _ => 0) q_)))), (q_2, .inl (cI, 3, .inl (fun q_ => nI ((fun _ => 0) q_))))] H := hP
  have hD : va_D A [(h0, .inr (8, [.int 0, .ref q_1, .ref q_2, .null, .null, .int 0, .null, .null, .null])), (q_1, .inl (cI, 9, .inl (fun q_ => nI ((fun _ => 0) q_)))), (q_2, .inl (cI, 3, .inl (fun q_ => nI ((fun _ => 0) q_))))] := hD
  refine lv_aload_n hx hb dX8_init_24 rfl (lv_at hl 0 rfl) ?_
  refine lv_iconst (v := 3) hx hb dX8_init_25 (by decide) ?_
  refine z_newa (n := 3) (N' := 3) hx hb (hts (.arrayClass .int) (List.mem_of_getElem? (i := 5) rfl)) hK hP hD hS hA (by decide) (by decide) (by decide) (Nat.le_of_ble_eq_true rfl) (Nat.le_of_ble_eq_true rfl) dX8_init_26 (fun q_3 H hP hD hS => ?_)
  have hP : va_P D vwCl [(h0, .inr (8, [.int 0, .ref q_1, .ref q_2, .null, .null, .int 0, .null, .null, .null])), (q_1, .inl (cI, 9, .inl (fun q_ => nI ((fun _ => 0) q_)))), (q_2, .inl (cI, 3, .inl (fun q_ => nI ((fun _ => 0) q_)))), (q_3, .inl (cI, 3, .inl (fun q_ => nI ((fun _ => 0) q_))))] H := hP
  have hD : va_D A [(h0, .inr (8, [.int 0, .ref q_1, .ref q_2, .null, .null, .int 0, .null, .null, .null])), (q_1, .inl (cI, 9, .inl (fun q_ => nI ((fun _ => 0) q_)))), (q_2, .inl (cI, 3, .inl (fun q_ => nI ((fun _ => 0) q_)))), (q_3, .inl (cI, 3, .inl (fun q_ => nI ((fun _ => 0) q_))))] := hD
  refine va_putF (D := D) (ci := 8) (v := .ref q_3) (ty := .array .int) (C := RX8) (T := TX8) (N := 9) hx hb hts zi_X8_init_X8 tyX8 tyX8_ok nmX8 hown hK hP hD hS 0 rfl rfl 3 (by decide) (hts (.fieldLink RX8 22 "BeatenInstead$Standing" "learnt" "[I") (List.mem_of_getElem? (i := 8) rfl)) (fun _ h9 => h9) rfl hin rfl rfl rfl rfl (Nat.le_of_ble_eq_true rfl) dX8_init_28 (fun H locs hP hD hS => ?_)
  have hP : va_P D vwCl [(h0, .inr (8, [.int 0, .ref q_1, .ref q_2, .ref q_3, .null, .int 0, .null, .null, .null])), (q_1, .inl (cI, 9, .inl (fun q_ => nI ((fun _ => 0) q_)))), (q_2, .inl (cI, 3, .inl (fun q_ => nI ((fun _ => 0) q_)))), (q_3, .inl (cI, 3, .inl (fun q_ => nI ((fun _ => 0) q_))))] H := hP
  have hD : va_D A [(h0, .inr (8, [.int 0, .ref q_1, .ref q_2, .ref q_3, .null, .int 0, .null, .null, .null])), (q_1, .inl (cI, 9, .inl (fun q_ => nI ((fun _ => 0) q_)))), (q_2, .inl (cI, 3, .inl (fun q_ => nI ((fun _ => 0) q_)))), (q_3, .inl (cI, 3, .inl (fun q_ => nI ((fun _ => 0) q_))))] := hD
  refine lv_aload_n hx hb dX8_init_31 rfl (lv_at hl 0 rfl) ?_
  refine lv_iconst (v := 3) hx hb dX8_init_32 (by decide) ?_
  refine z_newa (n := 3) (N' := 3) hx hb (hts (.arrayClass .int) (List.mem_of_getElem? (i := 5) rfl)) hK hP hD hS hA (by decide) (by decide) (by decide) (Nat.le_of_ble_eq_true rfl) (Nat.le_of_ble_eq_true rfl) dX8_init_33 (fun q_4 H hP hD hS => ?_)
  have hP : va_P D vwCl [(h0, .inr (8, [.int 0, .ref q_1, .ref q_2, .ref q_3, .null, .int 0, .null, .null, .null])), (q_1, .inl (cI, 9, .inl (fun q_ => nI ((fun _ => 0) q_)))), (q_2, .inl (cI, 3, .inl (fun q_ => nI ((fun _ => 0) q_)))), (q_3, .inl (cI, 3, .inl (fun q_ => nI ((fun _ => 0) q_)))), (q_4, .inl (cI, 3, .inl (fun q_ => nI ((fun _ => 0) q_))))] H := hP
  have hD : va_D A [(h0, .inr (8, [.int 0, .ref q_1, .ref q_2, .ref q_3, .null, .int 0, .null, .null, .null])), (q_1, .inl (cI, 9, .inl (fun q_ => nI ((fun _ => 0) q_)))), (q_2, .inl (cI, 3, .inl (fun q_ => nI ((fun _ => 0) q_)))), (q_3, .inl (cI, 3, .inl (fun q_ => nI ((fun _ => 0) q_)))), (q_4, .inl (cI, 3, .inl (fun q_ => nI ((fun _ => 0) q_))))] := hD
  refine va_putF (D := D) (ci := 8) (v := .ref q_4) (ty := .array .int) (C := RX8) (T := TX8) (N := 9) hx hb hts zi_X8_init_X8 tyX8 tyX8_ok nmX8 hown hK hP hD hS 0 rfl rfl 4 (by decide) (hts (.fieldLink RX8 25 "BeatenInstead$Standing" "stripes" "[I") (List.mem_of_getElem? (i := 9) rfl)) (fun _ h9 => h9) rfl hin rfl rfl rfl rfl (Nat.le_of_ble_eq_true rfl) dX8_init_35 (fun H locs hP hD hS => ?_)
  have hP : va_P D vwCl [(h0, .inr (8, [.int 0, .ref q_1, .ref q_2, .ref q_3, .ref q_4, .int 0, .null, .null, .null])), (q_1, .inl (cI, 9, .inl (fun q_ => nI ((fun _ => 0) q_)))), (q_2, .inl (cI, 3, .inl (fun q_ => nI ((fun _ => 0) q_)))), (q_3, .inl (cI, 3, .inl (fun q_ => nI ((fun _ => 0) q_)))), (q_4, .inl (cI, 3, .inl (fun q_ => nI ((fun _ => 0) q_))))] H := hP
  have hD : va_D A [(h0, .inr (8, [.int 0, .ref q_1, .ref q_2, .ref q_3, .ref q_4, .int 0, .null, .null, .null])), (q_1, .inl (cI, 9, .inl (fun q_ => nI ((fun _ => 0) q_)))), (q_2, .inl (cI, 3, .inl (fun q_ => nI ((fun _ => 0) q_)))), (q_3, .inl (cI, 3, .inl (fun q_ => nI ((fun _ => 0) q_)))), (q_4, .inl (cI, 3, .inl (fun q_ => nI ((fun _ => 0) q_))))] := hD
  refine lv_aload_n hx hb dX8_init_38 rfl (lv_at hl 0 rfl) ?_
  refine lv_iconst (v := 0) hx hb dX8_init_39 (by decide) ?_
  refine va_put (D := D) (ci := 8) (v := .int 0) (ty := .int) (C := RX8) (T := TX8) (N := 9) hx hb hts zi_X8_init_X8 tyX8 tyX8_ok nmX8 hown hK hP hD hS 0 rfl rfl 5 (by decide) (hts (.fieldLink RX8 28 "BeatenInstead$Standing" "heard" "I") (List.mem_of_getElem? (i := 10) rfl)) (fun _ h9 => h9) rfl rfl rfl rfl (Nat.le_of_ble_eq_true rfl) dX8_init_40 (fun H locs hP hD hS => ?_)
  have hP : va_P D vwCl [(h0, .inr (8, [.int 0, .ref q_1, .ref q_2, .ref q_3, .ref q_4, .int 0, .null, .null, .null])), (q_1, .inl (cI, 9, .inl (fun q_ => nI ((fun _ => 0) q_)))), (q_2, .inl (cI, 3, .inl (fun q_ => nI ((fun _ => 0) q_)))), (q_3, .inl (cI, 3, .inl (fun q_ => nI ((fun _ => 0) q_)))), (q_4, .inl (cI, 3, .inl (fun q_ => nI ((fun _ => 0) q_))))] H := hP
  have hD : va_D A [(h0, .inr (8, [.int 0, .ref q_1, .ref q_2, .ref q_3, .ref q_4, .int 0, .null, .null, .null])), (q_1, .inl (cI, 9, .inl (fun q_ => nI ((fun _ => 0) q_)))), (q_2, .inl (cI, 3, .inl (fun q_ => nI ((fun _ => 0) q_)))), (q_3, .inl (cI, 3, .inl (fun q_ => nI ((fun _ => 0) q_)))), (q_4, .inl (cI, 3, .inl (fun q_ => nI ((fun _ => 0) q_))))] := hD
  refine lv_aload_n hx hb dX8_init_43 rfl (lv_at hl 0 rfl) ?_
  refine lv_bipush (v := (6)) hx hb dX8_init_44 (by decide) ?_
  refine z_newa (n := 6) (N' := 6) hx hb (hts (.arrayClass .int) (List.mem_of_getElem? (i := 5) rfl)) hK hP hD hS hA (by decide) (by decide) (by decide) (Nat.le_of_ble_eq_true rfl) (Nat.le_of_ble_eq_true rfl) dX8_init_46 (fun q_5 H hP hD hS => ?_)
  have hP : va_P D vwCl [(h0, .inr (8, [.int 0, .ref q_1, .ref q_2, .ref q_3, .ref q_4, .int 0, .null, .null, .null])), (q_1, .inl (cI, 9, .inl (fun q_ => nI ((fun _ => 0) q_)))), (q_2, .inl (cI, 3, .inl (fun q_ => nI ((fun _ => 0) q_)))), (q_3, .inl (cI, 3, .inl (fun q_ => nI ((fun _ => 0) q_)))), (q_4, .inl (cI, 3, .inl (fun q_ => nI ((fun _ => 0) q_)))), (q_5, .inl (cI, 6, .inl (fun q_ => nI ((fun _ => 0) q_))))] H := hP
  have hD : va_D A [(h0, .inr (8, [.int 0, .ref q_1, .ref q_2, .ref q_3, .ref q_4, .int 0, .null, .null, .null])), (q_1, .inl (cI, 9, .inl (fun q_ => nI ((fun _ => 0) q_)))), (q_2, .inl (cI, 3, .inl (fun q_ => nI ((fun _ => 0) q_)))), (q_3, .inl (cI, 3, .inl (fun q_ => nI ((fun _ => 0) q_)))), (q_4, .inl (cI, 3, .inl (fun q_ => nI ((fun _ => 0) q_)))), (q_5, .inl (cI, 6, .inl (fun q_ => nI ((fun _ => 0) q_))))] := hD
  refine va_putF (D := D) (ci := 8) (v := .ref q_5) (ty := .array .int) (C := RX8) (T := TX8) (N := 9) hx hb hts zi_X8_init_X8 tyX8 tyX8_ok nmX8 hown hK hP hD hS 0 rfl rfl 6 (by decide) (hts (.fieldLink RX8 31 "BeatenInstead$Standing" "heardPrince" "[I") (List.mem_of_getElem? (i := 11) rfl)) (fun _ h9 => h9) rfl hin rfl rfl rfl rfl (Nat.le_of_ble_eq_true rfl) dX8_init_48 (fun H locs hP hD hS => ?_)
  have hP : va_P D vwCl [(h0, .inr (8, [.int 0, .ref q_1, .ref q_2, .ref q_3, .ref q_4, .int 0, .ref q_5, .null, .null])), (q_1, .inl (cI, 9, .inl (fun q_ => nI ((fun _ => 0) q_)))), (q_2, .inl (cI, 3, .inl (fun q_ => nI ((fun _ => 0) q_)))), (q_3, .inl (cI, 3, .inl (fun q_ => nI ((fun _ => 0) q_)))), (q_4, .inl (cI, 3, .inl (fun q_ => nI ((fun _ => 0) q_)))), (q_5, .inl (cI, 6, .inl (fun q_ => nI ((fun _ => 0) q_))))] H := hP
  have hD : va_D A [(h0, .inr (8, [.int 0, .ref q_1, .ref q_2, .ref q_3, .ref q_4, .int 0, .ref q_5, .null, .null])), (q_1, .inl (cI, 9, .inl (fun q_ => nI ((fun _ => 0) q_)))), (q_2, .inl (cI, 3, .inl (fun q_ => nI ((fun _ => 0) q_)))), (q_3, .inl (cI, 3, .inl (fun q_ => nI ((fun _ => 0) q_)))), (q_4, .inl (cI, 3, .inl (fun q_ => nI ((fun _ => 0) q_)))), (q_5, .inl (cI, 6, .inl (fun q_ => nI ((fun _ => 0) q_))))] := hD
  refine lv_aload_n hx hb dX8_init_51 rfl (lv_at hl 0 rfl) ?_
  refine lv_bipush (v := (6)) hx hb dX8_init_52 (by decide) ?_
  refine z_newa (n := 6) (N' := 6) hx hb (hts (.arrayClass .int) (List.mem_of_getElem? (i := 5) rfl)) hK hP hD hS hA (by decide) (by decide) (by decide) (Nat.le_of_ble_eq_true rfl) (Nat.le_of_ble_eq_true rfl) dX8_init_54 (fun q_6 H hP hD hS => ?_)
  have hP : va_P D vwCl [(h0, .inr (8, [.int 0, .ref q_1, .ref q_2, .ref q_3, .ref q_4, .int 0, .ref q_5, .null, .null])), (q_1, .inl (cI, 9, .inl (fun q_ => nI ((fun _ => 0) q_)))), (q_2, .inl (cI, 3, .inl (fun q_ => nI ((fun _ => 0) q_)))), (q_3, .inl (cI, 3, .inl (fun q_ => nI ((fun _ => 0) q_)))), (q_4, .inl (cI, 3, .inl (fun q_ => nI ((fun _ => 0) q_)))), (q_5, .inl (cI, 6, .inl (fun q_ => nI ((fun _ => 0) q_)))), (q_6, .inl (cI, 6, .inl (fun q_ => nI ((fun _ => 0) q_))))] H := hP
  have hD : va_D A [(h0, .inr (8, [.int 0, .ref q_1, .ref q_2, .ref q_3, .ref q_4, .int 0, .ref q_5, .null, .null])), (q_1, .inl (cI, 9, .inl (fun q_ => nI ((fun _ => 0) q_)))), (q_2, .inl (cI, 3, .inl (fun q_ => nI ((fun _ => 0) q_)))), (q_3, .inl (cI, 3, .inl (fun q_ => nI ((fun _ => 0) q_)))), (q_4, .inl (cI, 3, .inl (fun q_ => nI ((fun _ => 0) q_)))), (q_5, .inl (cI, 6, .inl (fun q_ => nI ((fun _ => 0) q_)))), (q_6, .inl (cI, 6, .inl (fun q_ => nI ((fun _ => 0) q_))))] := hD
  refine va_putF (D := D) (ci := 8) (v := .ref q_6) (ty := .array .int) (C := RX8) (T := TX8) (N := 9) hx hb hts zi_X8_init_X8 tyX8 tyX8_ok nmX8 hown hK hP hD hS 0 rfl rfl 7 (by decide) (hts (.fieldLink RX8 34 "BeatenInstead$Standing" "heardLesson" "[I") (List.mem_of_getElem? (i := 12) rfl)) (fun _ h9 => h9) rfl hin rfl rfl rfl rfl (Nat.le_of_ble_eq_true rfl) dX8_init_56 (fun H locs hP hD hS => ?_)
  have hP : va_P D vwCl [(h0, .inr (8, [.int 0, .ref q_1, .ref q_2, .ref q_3, .ref q_4, .int 0, .ref q_5, .ref q_6, .null])), (q_1, .inl (cI, 9, .inl (fun q_ => nI ((fun _ => 0) q_)))), (q_2, .inl (cI, 3, .inl (fun q_ => nI ((fun _ => 0) q_)))), (q_3, .inl (cI, 3, .inl (fun q_ => nI ((fun _ => 0) q_)))), (q_4, .inl (cI, 3, .inl (fun q_ => nI ((fun _ => 0) q_)))), (q_5, .inl (cI, 6, .inl (fun q_ => nI ((fun _ => 0) q_)))), (q_6, .inl (cI, 6, .inl (fun q_ => nI ((fun _ => 0) q_))))] H := hP
  have hD : va_D A [(h0, .inr (8, [.int 0, .ref q_1, .ref q_2, .ref q_3, .ref q_4, .int 0, .ref q_5, .ref q_6, .null])), (q_1, .inl (cI, 9, .inl (fun q_ => nI ((fun _ => 0) q_)))), (q_2, .inl (cI, 3, .inl (fun q_ => nI ((fun _ => 0) q_)))), (q_3, .inl (cI, 3, .inl (fun q_ => nI ((fun _ => 0) q_)))), (q_4, .inl (cI, 3, .inl (fun q_ => nI ((fun _ => 0) q_)))), (q_5, .inl (cI, 6, .inl (fun q_ => nI ((fun _ => 0) q_)))), (q_6, .inl (cI, 6, .inl (fun q_ => nI ((fun _ => 0) q_))))] := hD
  refine lv_aload_n hx hb dX8_init_59 rfl (lv_at hl 0 rfl) ?_
  refine lv_bipush (v := (6)) hx hb dX8_init_60 (by decide) ?_
  refine z_newa (n := 6) (N' := 6) hx hb (hts (.arrayClass .int) (List.mem_of_getElem? (i := 5) rfl)) hK hP hD hS hA (by decide) (by decide) (by decide) (Nat.le_of_ble_eq_true rfl) (Nat.le_of_ble_eq_true rfl) dX8_init_62 (fun q_7 H hP hD hS => ?_)
  have hP : va_P D vwCl [(h0, .inr (8, [.int 0, .ref q_1, .ref q_2, .ref q_3, .ref q_4, .int 0, .ref q_5, .ref q_6, .null])), (q_1, .inl (cI, 9, .inl (fun q_ => nI ((fun _ => 0) q_)))), (q_2, .inl (cI, 3, .inl (fun q_ => nI ((fun _ => 0) q_)))), (q_3, .inl (cI, 3, .inl (fun q_ => nI ((fun _ => 0) q_)))), (q_4, .inl (cI, 3, .inl (fun q_ => nI ((fun _ => 0) q_)))), (q_5, .inl (cI, 6, .inl (fun q_ => nI ((fun _ => 0) q_)))), (q_6, .inl (cI, 6, .inl (fun q_ => nI ((fun _ => 0) q_)))), (q_7, .inl (cI, 6, .inl (fun q_ => nI ((fun _ => 0) q_))))] H := hP
  have hD : va_D A [(h0, .inr (8, [.int 0, .ref q_1, .ref q_2, .ref q_3, .ref q_4, .int 0, .ref q_5, .ref q_6, .null])), (q_1, .inl (cI, 9, .inl (fun q_ => nI ((fun _ => 0) q_)))), (q_2, .inl (cI, 3, .inl (fun q_ => nI ((fun _ => 0) q_)))), (q_3, .inl (cI, 3, .inl (fun q_ => nI ((fun _ => 0) q_)))), (q_4, .inl (cI, 3, .inl (fun q_ => nI ((fun _ => 0) q_)))), (q_5, .inl (cI, 6, .inl (fun q_ => nI ((fun _ => 0) q_)))), (q_6, .inl (cI, 6, .inl (fun q_ => nI ((fun _ => 0) q_)))), (q_7, .inl (cI, 6, .inl (fun q_ => nI ((fun _ => 0) q_))))] := hD
  refine va_putF (D := D) (ci := 8) (v := .ref q_7) (ty := .array .int) (C := RX8) (T := TX8) (N := 9) hx hb hts zi_X8_init_X8 tyX8 tyX8_ok nmX8 hown hK hP hD hS 0 rfl rfl 8 (by decide) (hts (.fieldLink RX8 37 "BeatenInstead$Standing" "heardLearnt" "[I") (List.mem_of_getElem? (i := 13) rfl)) (fun _ h9 => h9) rfl hin rfl rfl rfl rfl (Nat.le_of_ble_eq_true rfl) dX8_init_64 (fun H locs hP hD hS => ?_)
  have hP : va_P D vwCl [(h0, .inr (8, [.int 0, .ref q_1, .ref q_2, .ref q_3, .ref q_4, .int 0, .ref q_5, .ref q_6, .ref q_7])), (q_1, .inl (cI, 9, .inl (fun q_ => nI ((fun _ => 0) q_)))), (q_2, .inl (cI, 3, .inl (fun q_ => nI ((fun _ => 0) q_)))), (q_3, .inl (cI, 3, .inl (fun q_ => nI ((fun _ => 0) q_)))), (q_4, .inl (cI, 3, .inl (fun q_ => nI ((fun _ => 0) q_)))), (q_5, .inl (cI, 6, .inl (fun q_ => nI ((fun _ => 0) q_)))), (q_6, .inl (cI, 6, .inl (fun q_ => nI ((fun _ => 0) q_)))), (q_7, .inl (cI, 6, .inl (fun q_ => nI ((fun _ => 0) q_))))] H := hP
  have hD : va_D A [(h0, .inr (8, [.int 0, .ref q_1, .ref q_2, .ref q_3, .ref q_4, .int 0, .ref q_5, .ref q_6, .ref q_7])), (q_1, .inl (cI, 9, .inl (fun q_ => nI ((fun _ => 0) q_)))), (q_2, .inl (cI, 3, .inl (fun q_ => nI ((fun _ => 0) q_)))), (q_3, .inl (cI, 3, .inl (fun q_ => nI ((fun _ => 0) q_)))), (q_4, .inl (cI, 3, .inl (fun q_ => nI ((fun _ => 0) q_)))), (q_5, .inl (cI, 6, .inl (fun q_ => nI ((fun _ => 0) q_)))), (q_6, .inl (cI, 6, .inl (fun q_ => nI ((fun _ => 0) q_)))), (q_7, .inl (cI, 6, .inl (fun q_ => nI ((fun _ => 0) q_))))] := hD
  exact hret _ _ ((q_1, q_2, q_3, q_4, q_5, q_6, q_7)) _ _ dX8_init_67 trivial hP hD hS

theorem zi_X4_init_X4 : ∀ w ∈ wsX40, w ∈ wsX4_init := fun _ h => List.mem_cons_of_mem _ (List.mem_append_right _ (h))
abbrev rm_X4_init : Room := { frames := 1, cells := 2, slots := 10, locals := 12 }
set_option maxHeartbeats 4000000 in
set_option maxRecDepth 100000 in
theorem c_X4_init (l : Launch) (D : va_G) (cI cB cP : ClassId) (h0 : Nat)   : zVv (S := Nat × Nat) l D cI cB cP yX4_init wsX4_init rm_X4_init [.ref h0] [(h0, .inr (4, [.null, .null, .int 0, .long 0, .long 0]))] ([]) 2 10 (fun _ => True) (fun u => [(h0, .inr (4, [.ref u.1, .ref u.2, .int 0, .long 1, .long 0])), (u.1, .inl (cI, 5, .inl (fun q_ => nI ((fun _ => 0) q_)))), (u.2, .inl (cI, 5, .inl (fun q_ => nI ((fun _ => 0) q_))))]) := by
  refine zVv_of (cc := cX4_init) (maxL := 1) (by decide) rfl (Nat.le_of_ble_eq_true rfl) ?_
  intro p e s m args below meth c ls Q A H locs hx hb hml hts hown hin hP hD hS hA hRk hRA hK hN hl hret
  have hin : meth.name = "<init>" := hin
  have hown : s.vm.findClass RX4 = some m.cls := hown
  have hl : lv_has ls 1 [(0, .ref h0)] := hl
  refine lv_aload_n hx hb dX4_init_0 rfl (lv_at hl 0 rfl) ?_
  refine W.objInit hx hb hown (hts (.methodLink RX4 3 objectInit) (List.mem_of_getElem? (i := 1) rfl)) (hts (.instanceMethod objectInit) (List.mem_of_getElem? (i := 2) rfl)) (hts _ (List.mem_of_getElem? (i := 3) rfl)) rfl (by rw [hml]; exact hl.1) rfl dX4_init_1 (Nat.le_of_ble_eq_true rfl) (Nat.le_of_ble_eq_true rfl) ?_
  refine W.eq (g2 := F0 m 4 ls []) rfl ?_
  refine lv_aload_n hx hb dX4_init_4 rfl (lv_at hl 0 rfl) ?_
  refine lv_iconst (v := 5) hx hb dX4_init_5 (by decide) ?_
  refine z_newa (n := 5) (N' := 5) hx hb (hts (.arrayClass .int) (List.mem_of_getElem? (i := 4) rfl)) hK hP hD hS hA (by decide) (by decide) (by decide) (Nat.le_of_ble_eq_true rfl) (Nat.le_of_ble_eq_true rfl) dX4_init_6 (fun q_1 H hP hD hS => ?_)
  have hP : va_P D vwCl [(h0, .inr (4, [.null, .null, .int 0, .long 0, .long 0])), (q_1, .inl (cI, 5, .inl (fun q_ => nI ((fun _ => 0) q_))))] H := hP
  have hD : va_D A [(h0, .inr (4, [.null, .null, .int 0, .long 0, .long 0])), (q_1, .inl (cI, 5, .inl (fun q_ => nI ((fun _ => 0) q_))))] := hD
  refine va_putF (D := D) (ci := 4) (v := .ref q_1) (ty := .array .int) (C := RX4) (T := TX4) (N := 5) hx hb hts zi_X4_init_X4 tyX4 tyX4_ok nmX4 hown hK hP hD hS 0 rfl rfl 0 (by decide) (hts (.fieldLink RX4 9 "BeatenInstead$Ordering" "path" "[I") (List.mem_of_getElem? (i := 5) rfl)) (fun _ h9 => h9) rfl hin rfl rfl rfl rfl (Nat.le_of_ble_eq_true rfl) dX4_init_8 (fun H locs hP hD hS => ?_)
  have hP : va_P D vwCl [(h0, .inr (4, [.ref q_1, .null, .int 0, .long 0, .long 0])), (q_1, .inl (cI, 5, .inl (fun q_ => nI ((fun _ => 0) q_))))] H := hP
  have hD : va_D A [(h0, .inr (4, [.ref q_1, .null, .int 0, .long 0, .long 0])), (q_1, .inl (cI, 5, .inl (fun q_ => nI ((fun _ => 0) q_))))] := hD
  refine lv_aload_n hx hb dX4_init_11 rfl (lv_at hl 0 rfl) ?_
  refine lv_iconst (v := 5) hx hb dX4_init_12 (by decide) ?_
  refine z_newa (n := 5) (N' := 5) hx hb (hts (.arrayClass .int) (List.mem_of_getElem? (i := 4) rfl)) hK hP hD hS hA (by decide) (by decide) (by decide) (Nat.le_of_ble_eq_true rfl) (Nat.le_of_ble_eq_true rfl) dX4_init_13 (fun q_2 H hP hD hS => ?_)
  have hP : va_P D vwCl [(h0, .inr (4, [.ref q_1, .null, .int 0, .long 0, .long 0])), (q_1, .inl (cI, 5, .inl (fun q_ => nI ((fun _ => 0) q_)))), (q_2, .inl (cI, 5, .inl (fun q_ => nI ((fun _ => 0) q_))))] H := hP
  have hD : va_D A [(h0, .inr (4, [.ref q_1, .null, .int 0, .long 0, .long 0])), (q_1, .inl (cI, 5, .inl (fun q_ => nI ((fun _ => 0) q_)))), (q_2, .inl (cI, 5, .inl (fun q_ => nI ((fun _ => 0) q_))))] := hD
  refine va_putF (D := D) (ci := 4) (v := .ref q_2) (ty := .array .int) (C := RX4) (T := TX4) (N := 5) hx hb hts zi_X4_init_X4 tyX4 tyX4_ok nmX4 hown hK hP hD hS 0 rfl rfl 1 (by decide) (hts (.fieldLink RX4 15 "BeatenInstead$Ordering" "best" "[I") (List.mem_of_getElem? (i := 6) rfl)) (fun _ h9 => h9) rfl hin rfl rfl rfl rfl (Nat.le_of_ble_eq_true rfl) dX4_init_15 (fun H locs hP hD hS => ?_)
  have hP : va_P D vwCl [(h0, .inr (4, [.ref q_1, .ref q_2, .int 0, .long 0, .long 0])), (q_1, .inl (cI, 5, .inl (fun q_ => nI ((fun _ => 0) q_)))), (q_2, .inl (cI, 5, .inl (fun q_ => nI ((fun _ => 0) q_))))] H := hP
  have hD : va_D A [(h0, .inr (4, [.ref q_1, .ref q_2, .int 0, .long 0, .long 0])), (q_1, .inl (cI, 5, .inl (fun q_ => nI ((fun _ => 0) q_)))), (q_2, .inl (cI, 5, .inl (fun q_ => nI ((fun _ => 0) q_))))] := hD
  refine lv_aload_n hx hb dX4_init_18 rfl (lv_at hl 0 rfl) ?_
  refine lv_iconst (v := 0) hx hb dX4_init_19 (by decide) ?_
  refine va_put (D := D) (ci := 4) (v := .int 0) (ty := .int) (C := RX4) (T := TX4) (N := 5) hx hb hts zi_X4_init_X4 tyX4 tyX4_ok nmX4 hown hK hP hD hS 0 rfl rfl 2 (by decide) (hts (.fieldLink RX4 18 "BeatenInstead$Ordering" "size" "I") (List.mem_of_getElem? (i := 7) rfl)) (fun _ h9 => h9) rfl rfl rfl rfl (Nat.le_of_ble_eq_true rfl) dX4_init_20 (fun H locs hP hD hS => ?_)
  have hP : va_P D vwCl [(h0, .inr (4, [.ref q_1, .ref q_2, .int 0, .long 0, .long 0])), (q_1, .inl (cI, 5, .inl (fun q_ => nI ((fun _ => 0) q_)))), (q_2, .inl (cI, 5, .inl (fun q_ => nI ((fun _ => 0) q_))))] H := hP
  have hD : va_D A [(h0, .inr (4, [.ref q_1, .ref q_2, .int 0, .long 0, .long 0])), (q_1, .inl (cI, 5, .inl (fun q_ => nI ((fun _ => 0) q_)))), (q_2, .inl (cI, 5, .inl (fun q_ => nI ((fun _ => 0) q_))))] := hD
  refine lv_aload_n hx hb dX4_init_23 rfl (lv_at hl 0 rfl) ?_
  refine lv_lconst (v := 1) hx hb dX4_init_24 (by decide) ?_
  refine va_put (D := D) (ci := 4) (v := .long 1) (ty := .long) (C := RX4) (T := TX4) (N := 5) hx hb hts zi_X4_init_X4 tyX4 tyX4_ok nmX4 hown hK hP hD hS 0 rfl rfl 3 (by decide) (hts (.fieldLink RX4 22 "BeatenInstead$Ordering" "whole" "J") (List.mem_of_getElem? (i := 8) rfl)) (fun _ h9 => h9) rfl rfl rfl rfl (Nat.le_of_ble_eq_true rfl) dX4_init_25 (fun H locs hP hD hS => ?_)
  have hP : va_P D vwCl [(h0, .inr (4, [.ref q_1, .ref q_2, .int 0, .long 1, .long 0])), (q_1, .inl (cI, 5, .inl (fun q_ => nI ((fun _ => 0) q_)))), (q_2, .inl (cI, 5, .inl (fun q_ => nI ((fun _ => 0) q_))))] H := hP
  have hD : va_D A [(h0, .inr (4, [.ref q_1, .ref q_2, .int 0, .long 1, .long 0])), (q_1, .inl (cI, 5, .inl (fun q_ => nI ((fun _ => 0) q_)))), (q_2, .inl (cI, 5, .inl (fun q_ => nI ((fun _ => 0) q_))))] := hD
  refine lv_aload_n hx hb dX4_init_28 rfl (lv_at hl 0 rfl) ?_
  refine lv_lconst (v := 0) hx hb dX4_init_29 (by decide) ?_
  refine va_put (D := D) (ci := 4) (v := .long 0) (ty := .long) (C := RX4) (T := TX4) (N := 5) hx hb hts zi_X4_init_X4 tyX4 tyX4_ok nmX4 hown hK hP hD hS 0 rfl rfl 4 (by decide) (hts (.fieldLink RX4 26 "BeatenInstead$Ordering" "bestMean" "J") (List.mem_of_getElem? (i := 9) rfl)) (fun _ h9 => h9) rfl rfl rfl rfl (Nat.le_of_ble_eq_true rfl) dX4_init_30 (fun H locs hP hD hS => ?_)
  have hP : va_P D vwCl [(h0, .inr (4, [.ref q_1, .ref q_2, .int 0, .long 1, .long 0])), (q_1, .inl (cI, 5, .inl (fun q_ => nI ((fun _ => 0) q_)))), (q_2, .inl (cI, 5, .inl (fun q_ => nI ((fun _ => 0) q_))))] H := hP
  have hD : va_D A [(h0, .inr (4, [.ref q_1, .ref q_2, .int 0, .long 1, .long 0])), (q_1, .inl (cI, 5, .inl (fun q_ => nI ((fun _ => 0) q_)))), (q_2, .inl (cI, 5, .inl (fun q_ => nI ((fun _ => 0) q_))))] := hD
  exact hret _ _ ((q_1, q_2)) _ _ dX4_init_33 trivial hP hD hS

theorem zi_X0_init_X0 : ∀ w ∈ wsX00, w ∈ wsX0_init := fun _ h => List.mem_cons_of_mem _ (List.mem_append_right _ (h))
abbrev rm_X0_init : Room := { frames := 1, cells := 0, slots := 0, locals := 12 }
set_option maxHeartbeats 4000000 in
set_option maxRecDepth 100000 in
theorem c_X0_init (l : Launch) (D : va_G) (cI cB cP : ClassId) (h0 : Nat)   : zVv (S := Unit) l D cI cB cP yX0_init wsX0_init rm_X0_init [.ref h0] [(h0, .inr (0, [.int 0, .int 0, .int 0, .int 0]))] ([]) 0 0 (fun _ => True) (fun u => [(h0, .inr (0, [.int 0, .int 0, .int 0, .int 0]))]) := by
  refine zVv_of (cc := cX0_init) (maxL := 1) (by decide) rfl (Nat.le_of_ble_eq_true rfl) ?_
  intro p e s m args below meth c ls Q A H locs hx hb hml hts hown hin hP hD hS hA hRk hRA hK hN hl hret
  have hin : meth.name = "<init>" := hin
  have hown : s.vm.findClass RX0 = some m.cls := hown
  have hl : lv_has ls 1 [(0, .ref h0)] := hl
  refine lv_aload_n hx hb dX0_init_0 rfl (lv_at hl 0 rfl) ?_
  refine W.objInit hx hb hown (hts (.methodLink RX0 1 objectInit) (List.mem_of_getElem? (i := 1) rfl)) (hts (.instanceMethod objectInit) (List.mem_of_getElem? (i := 2) rfl)) (hts _ (List.mem_of_getElem? (i := 3) rfl)) rfl (by rw [hml]; exact hl.1) rfl dX0_init_1 (Nat.le_of_ble_eq_true rfl) (Nat.le_of_ble_eq_true rfl) ?_
  refine W.eq (g2 := F0 m 4 ls []) rfl ?_
  refine lv_aload_n hx hb dX0_init_4 rfl (lv_at hl 0 rfl) ?_
  refine lv_iconst (v := 0) hx hb dX0_init_5 (by decide) ?_
  refine va_put (D := D) (ci := 0) (v := .int 0) (ty := .int) (C := RX0) (T := TX0) (N := 4) hx hb hts zi_X0_init_X0 tyX0 tyX0_ok nmX0 hown hK hP hD hS 0 rfl rfl 0 (by decide) (hts (.fieldLink RX0 7 "BeatenInstead$Blame" "learnt" "I") (List.mem_of_getElem? (i := 4) rfl)) (fun _ h9 => h9) rfl rfl rfl rfl (Nat.le_of_ble_eq_true rfl) dX0_init_6 (fun H locs hP hD hS => ?_)
  have hP : va_P D vwCl [(h0, .inr (0, [.int 0, .int 0, .int 0, .int 0]))] H := hP
  have hD : va_D A [(h0, .inr (0, [.int 0, .int 0, .int 0, .int 0]))] := hD
  refine lv_aload_n hx hb dX0_init_9 rfl (lv_at hl 0 rfl) ?_
  refine lv_iconst (v := 0) hx hb dX0_init_10 (by decide) ?_
  refine va_put (D := D) (ci := 0) (v := .int 0) (ty := .int) (C := RX0) (T := TX0) (N := 4) hx hb hts zi_X0_init_X0 tyX0 tyX0_ok nmX0 hown hK hP hD hS 0 rfl rfl 1 (by decide) (hts (.fieldLink RX0 13 "BeatenInstead$Blame" "goal" "I") (List.mem_of_getElem? (i := 5) rfl)) (fun _ h9 => h9) rfl rfl rfl rfl (Nat.le_of_ble_eq_true rfl) dX0_init_11 (fun H locs hP hD hS => ?_)
  have hP : va_P D vwCl [(h0, .inr (0, [.int 0, .int 0, .int 0, .int 0]))] H := hP
  have hD : va_D A [(h0, .inr (0, [.int 0, .int 0, .int 0, .int 0]))] := hD
  refine lv_aload_n hx hb dX0_init_14 rfl (lv_at hl 0 rfl) ?_
  refine lv_iconst (v := 0) hx hb dX0_init_15 (by decide) ?_
  refine va_put (D := D) (ci := 0) (v := .int 0) (ty := .int) (C := RX0) (T := TX0) (N := 4) hx hb hts zi_X0_init_X0 tyX0 tyX0_ok nmX0 hown hK hP hD hS 0 rfl rfl 2 (by decide) (hts (.fieldLink RX0 16 "BeatenInstead$Blame" "sets" "I") (List.mem_of_getElem? (i := 6) rfl)) (fun _ h9 => h9) rfl rfl rfl rfl (Nat.le_of_ble_eq_true rfl) dX0_init_16 (fun H locs hP hD hS => ?_)
  have hP : va_P D vwCl [(h0, .inr (0, [.int 0, .int 0, .int 0, .int 0]))] H := hP
  have hD : va_D A [(h0, .inr (0, [.int 0, .int 0, .int 0, .int 0]))] := hD
  refine lv_aload_n hx hb dX0_init_19 rfl (lv_at hl 0 rfl) ?_
  refine lv_iconst (v := 0) hx hb dX0_init_20 (by decide) ?_
  refine va_put (D := D) (ci := 0) (v := .int 0) (ty := .int) (C := RX0) (T := TX0) (N := 4) hx hb hts zi_X0_init_X0 tyX0 tyX0_ok nmX0 hown hK hP hD hS 0 rfl rfl 3 (by decide) (hts (.fieldLink RX0 19 "BeatenInstead$Blame" "inAll" "I") (List.mem_of_getElem? (i := 7) rfl)) (fun _ h9 => h9) rfl rfl rfl rfl (Nat.le_of_ble_eq_true rfl) dX0_init_21 (fun H locs hP hD hS => ?_)
  have hP : va_P D vwCl [(h0, .inr (0, [.int 0, .int 0, .int 0, .int 0]))] H := hP
  have hD : va_D A [(h0, .inr (0, [.int 0, .int 0, .int 0, .int 0]))] := hD
  exact hret _ _ (()) _ _ dX0_init_24 trivial hP hD hS
