/-- the mean of blows, lessons in a row, in parts of 10 to their number -/
def zMl (w k lim : Nat) (hard blows : Nat → Nat) : List Nat → Nat → Int32 → Nat
  | [], _, _ => 0
  | i :: L, f, st => zTen w k f (hard i) * zMl w k lim hard blows L f st + (10 - zTen w k f (hard i)) * (blows i * 10 ^ L.length + zMl w k lim hard blows L (zFond f (st + nI (blows i)) lim) (st + nI (blows i)))
def zSlice (path : Nat → Nat) : Nat → Nat → List Nat
  | _, 0 => []
  | p, d + 1 => path p :: zSlice path (p + 1) d
theorem zMl_c10 {w k lim : Nat} {hard blows : Nat → Nat} {i : Nat} {L : List Nat} {f : Nat} {st : Int32} (h : 10 ≤ zTen w k f (hard i)) : zMl w k lim hard blows (i :: L) f st = zTen w k f (hard i) * zMl w k lim hard blows L f st := by
  rw [zMl, show 10 - zTen w k f (hard i) = 0 by omega, Nat.zero_mul, Nat.add_zero]
theorem zMl_c0 {w k lim : Nat} {hard blows : Nat → Nat} {i : Nat} {L : List Nat} {f : Nat} {st : Int32} (h : zTen w k f (hard i) = 0) : zMl w k lim hard blows (i :: L) f st = (10 - zTen w k f (hard i)) * (blows i * 10 ^ L.length + zMl w k lim hard blows L (zFond f (st + nI (blows i)) lim) (st + nI (blows i))) := by
  rw [zMl, h, Nat.zero_mul, Nat.zero_add]
theorem zSlice_len (path : Nat → Nat) : ∀ (d p : Nat), (zSlice path p d).length = d := by
  intro d
  induction d with
  | zero => intro p; rfl
  | succ d ih => intro p; rw [zSlice, List.length_cons, ih]
theorem zMl_le {w k lim : Nat} {hard blows : Nat → Nat} (hb : ∀ i, blows i ≤ 9) : ∀ (L : List Nat) (f : Nat) (st : Int32), zMl w k lim hard blows L f st ≤ 9 * L.length * 10 ^ L.length := by
  intro L
  induction L with
  | nil => intro f st; rw [zMl]; omega
  | cons i L ih =>
    intro f st
    rw [zMl, List.length_cons]
    have h1 := ih f st
    have h2 := ih (zFond f (st + nI (blows i)) lim) (st + nI (blows i))
    have h3 := hb i
    have ht := @zTen_le w k f (hard i)
    generalize zTen w k f (hard i) = t at ht
    generalize hM1 : zMl w k lim hard blows L f st = M1 at h1
    generalize hM2 : zMl w k lim hard blows L (zFond f (st + nI (blows i)) lim) (st + nI (blows i)) = M2 at h2
    generalize hX : 10 ^ L.length = X at h1 h2
    have h4 : blows i * X ≤ 9 * X := Nat.mul_le_mul_right _ h3
    have e1 : 9 * L.length * X = 9 * (L.length * X) := by rw [Nat.mul_assoc]
    rw [e1] at h1 h2
    generalize hY : L.length * X = Y at h1 h2
    have h5 : t * M1 ≤ t * (9 * X + 9 * Y) := Nat.mul_le_mul_left _ (by omega)
    have h6 : (10 - t) * (blows i * X + M2) ≤ (10 - t) * (9 * X + 9 * Y) := Nat.mul_le_mul_left _ (by omega)
    have h7 : t * (9 * X + 9 * Y) + (10 - t) * (9 * X + 9 * Y) = 10 * (9 * X + 9 * Y) := by rw [← Nat.add_mul]; congr 1; omega
    have h8 : 9 * (L.length + 1) * 10 ^ (L.length + 1) = 10 * (9 * X + 9 * Y) := by
      rw [Nat.pow_succ, hX, ← hY, Nat.mul_comm X 10, ← Nat.mul_assoc, Nat.mul_comm (9 * (L.length + 1)) 10, Nat.mul_assoc 10, Nat.mul_assoc 9, Nat.add_mul, Nat.one_mul]
      congr 1
      rw [Nat.mul_add, Nat.add_comm]
    rw [h8]
    omega
theorem z_p10 (d : Nat) (h : d ≤ 6) : 10 ^ d ≤ 10 ^ 6 := Nat.pow_le_pow_right (by omega) h
theorem z_ld10 {d : Nat} (h : d ≤ 5) : lN (10 ^ (d + 1)) / (10 : Int64) = lN (10 ^ d) := by
  have h1 := z_p10 (d + 1) (by omega)
  have h2 : (10 : Nat) ^ 6 < 2 ^ 63 := by decide
  have e := pk_lDiv (a := 10 ^ (d + 1)) (b := 10) (by omega) (by omega) (by omega)
  rw [show 10 ^ (d + 1) / 10 = 10 ^ d by rw [Nat.pow_succ, Nat.mul_div_cancel _ (by omega)]] at e
  exact e
abbrev rmM (d : Nat) : Room := { frames := 6 + d, cells := 0, slots := 0, locals := 200 + 40 * d }
theorem zi_X4_meanFrom_X4 : ∀ w ∈ wsX40, w ∈ wsX4_meanFrom := fun _ h => List.mem_cons_of_mem _ (List.mem_append_left _ (List.mem_append_left _ (List.mem_append_left _ (List.mem_append_left _ (List.mem_append_left _ (List.mem_append_left _ (List.mem_append_right _ (h))))))))
set_option maxHeartbeats 4000000 in
set_option maxRecDepth 100000 in
theorem c_X4_meanFrom_z (l : Launch) (D : va_G) (cI cB cP : ClassId) (h0 : Nat) (q_tx : Nat) (q1 : Nat) (q2 : Nat) (osz : Nat) (owh : Nat) (obm : Int64) (path : Nat → Nat) (t1 : Nat) (t2 : Nat) (lessons : Nat) (limit : Nat) (hard : Nat → Nat) (blows : Nat → Nat) (w0 : Nat) (kk : Nat) (wit : Nat) (f : Nat) (st : Int32) (place : Nat) (hkk : kk < 5) (hwit : wit ≤ 9) (hha : ∀ i, hard i ≤ 9) (hbl : ∀ i, blows i ≤ 9) (hpt : ∀ j, path j < 5) (hf : f ≤ 9) (hpl : osz ≤ place) (hpl2 : place < 100)  : zPl l D cI cB cP yX4_meanFrom wsX4_meanFrom (rmM (0)) [.ref h0, .ref q_tx, .ref w0, .int (nI f), .int st, .int (nI place), .long (lN 1)] ([(h0, .inr (4, [.ref q1, .ref q2, .int (nI osz), .long (lN owh), .long obm])), (q1, .inl (cI, 5, .inl (fun q_ => nI (path q_)))), (q_tx, .inr (9, [.ref t1, .ref t2, .int (nI lessons), .int (nI limit)])), (t1, .inl (cI, 5, .inl (fun q_ => nI (hard q_)))), (t2, .inl (cI, 5, .inl (fun q_ => nI (blows q_)))), (w0, .inr (zKi kk, [.int (nI wit)]))]) (fun r => r = lN (zMl wit kk limit hard blows (zSlice path place (0)) f st)) := by
  refine zPl_of (cc := cX4_meanFrom) (maxL := 19) (by decide) rfl (Nat.le_of_ble_eq_true rfl) ?_
  intro p e s m args below meth c ls Q hx hb hml hts hown hP hK hN hl hret
  have hown : s.vm.findClass RX4 = some m.cls := hown
  have hl : lv_has ls 19 [(0, .ref h0), (1, .ref q_tx), (2, .ref w0), (3, .int (nI f)), (4, .int st), (5, .int (nI place)), (6, .long (lN 1))] := hl
  refine lv_iload hx hb dX4_meanFrom_0 (lv_at hl 5 rfl) ?_
  refine lv_aload_n hx hb dX4_meanFrom_2 rfl (lv_at hl 0 rfl) ?_
  refine va_get (D := D) (ci := 4) (v := .int (nI osz)) (C := RX4) (T := TX4) (N := 5) hx hb hts zi_X4_meanFrom_X4 hown hK hP 0 rfl rfl 2 (by decide) (hts (.fieldLink RX4 18 "BeatenInstead$Ordering" "size" "I") (List.mem_of_getElem? (i := 1) rfl)) (fun _ h9 => h9) rfl dX4_meanFrom_3 ?_
  refine lv_icmp_lt (tgt := 11) hx hb dX4_meanFrom_6 (by decide) (fun c_1 => ?_) (fun c_1 => ?_)
  · skip
    have c_1 : place < osz := (nI_ltI (a := place) (b := osz) (by omega) (by omega)).mp c_1
    exact absurd hpl (by omega)
  · skip
    have c_1 : ¬ (place < osz) := (not_congr (nI_ltI (a := place) (b := osz) (by omega) (by omega))).mp c_1
    refine lv_lconst (v := 0) hx hb dX4_meanFrom_9 (by decide) ?_
    exact hret _ _ _ dX4_meanFrom_10 rfl

theorem zi_X4_meanFrom_X9 : ∀ w ∈ wsX90, w ∈ wsX4_meanFrom := fun _ h => List.mem_cons_of_mem _ (List.mem_append_left _ (List.mem_append_left _ (List.mem_append_left _ (List.mem_append_left _ (List.mem_append_left _ (List.mem_append_right _ (h)))))))
set_option maxHeartbeats 4000000 in
set_option maxRecDepth 100000 in
theorem c_X4_meanFrom_s (l : Launch) (D : va_G) (cI cB cP : ClassId) (h0 : Nat) (q_tx : Nat) (q1 : Nat) (q2 : Nat) (osz : Nat) (owh : Nat) (obm : Int64) (path : Nat → Nat) (t1 : Nat) (t2 : Nat) (lessons : Nat) (limit : Nat) (hard : Nat → Nat) (blows : Nat → Nat) (w0 : Nat) (kk : Nat) (wit : Nat) (f : Nat) (st : Int32) (place : Nat) (d : Nat) (hkk : kk < 5) (hwit : wit ≤ 9) (hha : ∀ i, hard i ≤ 9) (hbl : ∀ i, blows i ≤ 9) (hpt : ∀ j, path j < 5) (hf : f ≤ 9) (hd : d ≤ 5) (hpl : place + (d + 1) = osz) (hosz : osz ≤ 5) (ih : ∀ (f : Nat) (st : Int32) (place : Nat), f ≤ 9 → place + d = osz → zPl l D cI cB cP yX4_meanFrom wsX4_meanFrom (rmM d) [.ref h0, .ref q_tx, .ref w0, .int (nI f), .int st, .int (nI place), .long (lN (10 ^ d))] [(h0, .inr (4, [.ref q1, .ref q2, .int (nI osz), .long (lN owh), .long obm])), (q1, .inl (cI, 5, .inl (fun q_ => nI (path q_)))), (q_tx, .inr (9, [.ref t1, .ref t2, .int (nI lessons), .int (nI limit)])), (t1, .inl (cI, 5, .inl (fun q_ => nI (hard q_)))), (t2, .inl (cI, 5, .inl (fun q_ => nI (blows q_)))), (w0, .inr (zKi kk, [.int (nI wit)]))] (fun r => r = lN (zMl wit kk limit hard blows (zSlice path place d) f st))) : zPl l D cI cB cP yX4_meanFrom wsX4_meanFrom (rmM (d + 1)) [.ref h0, .ref q_tx, .ref w0, .int (nI f), .int st, .int (nI place), .long (lN (10 ^ (d + 1)))] ([(h0, .inr (4, [.ref q1, .ref q2, .int (nI osz), .long (lN owh), .long obm])), (q1, .inl (cI, 5, .inl (fun q_ => nI (path q_)))), (q_tx, .inr (9, [.ref t1, .ref t2, .int (nI lessons), .int (nI limit)])), (t1, .inl (cI, 5, .inl (fun q_ => nI (hard q_)))), (t2, .inl (cI, 5, .inl (fun q_ => nI (blows q_)))), (w0, .inr (zKi kk, [.int (nI wit)]))]) (fun r => r = lN (zMl wit kk limit hard blows (zSlice path place (d + 1)) f st)) := by
  refine zPl_of (cc := cX4_meanFrom) (maxL := 19) (by decide) rfl (Nat.le_of_ble_eq_true rfl) ?_
  intro p e s m args below meth c ls Q hx hb hml hts hown hP hK hN hl hret
  have hown : s.vm.findClass RX4 = some m.cls := hown
  have hl : lv_has ls 19 [(0, .ref h0), (1, .ref q_tx), (2, .ref w0), (3, .int (nI f)), (4, .int st), (5, .int (nI place)), (6, .long (lN (10 ^ (d + 1))))] := hl
  refine lv_iload hx hb dX4_meanFrom_0 (lv_at hl 5 rfl) ?_
  refine lv_aload_n hx hb dX4_meanFrom_2 rfl (lv_at hl 0 rfl) ?_
  refine va_get (D := D) (ci := 4) (v := .int (nI osz)) (C := RX4) (T := TX4) (N := 5) hx hb hts zi_X4_meanFrom_X4 hown hK hP 0 rfl rfl 2 (by decide) (hts (.fieldLink RX4 18 "BeatenInstead$Ordering" "size" "I") (List.mem_of_getElem? (i := 1) rfl)) (fun _ h9 => h9) rfl dX4_meanFrom_3 ?_
  refine lv_icmp_lt (tgt := 11) hx hb dX4_meanFrom_6 (by decide) (fun c_1 => ?_) (fun c_1 => ?_)
  · skip
    have c_1 : place < osz := (nI_ltI (a := place) (b := osz) (by omega) (by omega)).mp c_1
    refine lv_aload_n hx hb dX4_meanFrom_11 rfl (lv_at hl 0 rfl) ?_
    refine va_get (D := D) (ci := 4) (v := .ref q1) (C := RX4) (T := TX4) (N := 5) hx hb hts zi_X4_meanFrom_X4 hown hK hP 0 rfl rfl 0 (by decide) (hts (.fieldLink RX4 9 "BeatenInstead$Ordering" "path" "[I") (List.mem_of_getElem? (i := 2) rfl)) (fun _ h9 => h9) rfl dX4_meanFrom_12 ?_
    have hptp := hpt place
    refine lv_iload hx hb dX4_meanFrom_15 (lv_at hl 5 rfl) ?_
    refine vp_callSi (z_runSN (As := [.ref q1, .int (nI place)]) (rest := []) hx hb hml hown hts hK hN hl.1 (c_X10_at_n l D cI cB cP q1 5 path place (by omega) (by omega)) gX4_meanFrom_X10_at_n58 rfl 55 rfl (List.mem_of_getElem? (i := 5) rfl) (List.mem_of_getElem? (i := 4) rfl) zd_X10_at rfl (by simp only [rmM]; omega) (by simp only [rmM]; omega) (va_P.sub (ws' := [(q1, .inl (cI, 5, .inl (fun q_ => nI (path q_))))]) hP [1] rfl) rfl (Nat.le_of_ble_eq_true rfl) dX4_meanFrom_17 ⟨Nat.zero_le _, Nat.zero_le _⟩) (fun r hr => ?_)
    subst hr
    refine lv_istore (lv' := [(8, .int (nI (path place))), (0, .ref h0), (1, .ref q_tx), (2, .ref w0), (3, .int (nI f)), (4, .int st), (5, .int (nI place)), (6, .long (lN (10 ^ (d + 1))))]) hx hb dX4_meanFrom_20 hl (by decide) rfl (fun ls hl => ?_)
    refine lv_aload_n hx hb dX4_meanFrom_22 rfl (lv_at hl 2 rfl) ?_
    refine lv_aload_n hx hb dX4_meanFrom_23 rfl (lv_at hl 3 rfl) ?_
    refine lv_iload_n hx hb dX4_meanFrom_24 rfl (lv_at hl 4 rfl) ?_
    refine lv_iload hx hb dX4_meanFrom_25 (lv_at hl 0 rfl) ?_
    refine vp_callSi (z_runVN (b := q_tx) (As := [.ref w0, .int (nI f), .int (nI (path place))]) (rest := []) hx hb hml hown hts hK hN hl.1 (c_X9_tenthsFor l D cI cB cP q_tx t1 t2 lessons limit hard w0 kk wit f (path place) (hpt _) (hkk) (hwit) (hf) (hha _)) gX4_meanFrom_X9_tenthsFor_n62 rfl 56 rfl (List.mem_of_getElem? (i := 8) rfl) (List.mem_of_getElem? (i := 7) rfl) (List.mem_of_getElem? (i := 9) rfl) zd_X9_tenthsFor rfl (by simp only [rmM]; omega) (by simp only [rmM]; omega) (va_P.sub (ws' := [(q_tx, .inr (9, [.ref t1, .ref t2, .int (nI lessons), .int (nI limit)])), (t1, .inl (cI, 5, .inl (fun q_ => nI (hard q_)))), (w0, .inr (zKi kk, [.int (nI wit)]))]) hP [2, 3, 5] rfl) (va_recv hK hP (ci := 9) (q0 := 2) rfl rfl) rfl (Nat.le_of_ble_eq_true rfl) dX4_meanFrom_27 ⟨Nat.zero_le _, Nat.zero_le _⟩) (fun r hr => ?_)
    subst hr
    have hblp := hbl (path place)
    have hzt := @zTen_le wit kk f (hard (path place))
    refine lv_istore (lv' := [(9, .int (nI (zTen wit kk f (hard (path place))))), (8, .int (nI (path place))), (0, .ref h0), (1, .ref q_tx), (2, .ref w0), (3, .int (nI f)), (4, .int st), (5, .int (nI place)), (6, .long (lN (10 ^ (d + 1))))]) hx hb dX4_meanFrom_30 hl (by decide) rfl (fun ls hl => ?_)
    refine lv_lload hx hb dX4_meanFrom_32 (lv_at hl 8 rfl) ?_
    refine lv_ldc2 (v := (10)) hx hb hown (hts (.constantLong RX4 38 (10)) (List.mem_of_getElem? (i := 3) rfl)) dX4_meanFrom_34 ?_
    refine lv_ldiv hx hb dX4_meanFrom_37 (by decide) ?_
    refine z_topl (show ((lN (10 ^ (d + 1))) / 10) = lN (10 ^ d) from z_ld10 hd) ?_
    refine lv_lstore (lv' := [(10, .long (lN (10 ^ d))), (9, .int (nI (zTen wit kk f (hard (path place))))), (8, .int (nI (path place))), (0, .ref h0), (1, .ref q_tx), (2, .ref w0), (3, .int (nI f)), (4, .int st), (5, .int (nI place)), (6, .long (lN (10 ^ (d + 1))))]) hx hb dX4_meanFrom_38 hl (by decide) rfl (fun ls hl => ?_)
    refine lv_lconst (v := 0) hx hb dX4_meanFrom_40 (by decide) ?_
    refine lv_lstore (lv' := [(12, .long 0), (10, .long (lN (10 ^ d))), (9, .int (nI (zTen wit kk f (hard (path place))))), (8, .int (nI (path place))), (0, .ref h0), (1, .ref q_tx), (2, .ref w0), (3, .int (nI f)), (4, .int st), (5, .int (nI place)), (6, .long (lN (10 ^ (d + 1))))]) hx hb dX4_meanFrom_41 hl (by decide) rfl (fun ls hl => ?_)
    refine lv_iload hx hb dX4_meanFrom_43 (lv_at hl 2 rfl) ?_
    refine lv_iconst (v := 1) hx hb dX4_meanFrom_45 (by decide) ?_
    refine vp_callSi (z_runSN (As := [.int (nI (zTen wit kk f (hard (path place)))), .int 1]) (rest := []) hx hb hml hown hts hK hN hl.1 (c_X10_canBe l D cI cB cP (zTen wit kk f (hard (path place))) 1 (by have := @zTen_le wit kk f (hard (path place)); omega) (by omega)) gX4_meanFrom_X10_canBe_n66 rfl 57 rfl (List.mem_of_getElem? (i := 5) rfl) (List.mem_of_getElem? (i := 51) rfl) zd_X10_canBe rfl (by simp only [rmM]; omega) (by simp only [rmM]; omega) z_p0 rfl (Nat.le_of_ble_eq_true rfl) dX4_meanFrom_46 ⟨Nat.zero_le _, Nat.zero_le _⟩) (fun r hr => ?_)
    rcases hr with ⟨rfl, c_2⟩ | ⟨rfl, c_2⟩
    · skip
      refine lv_if_eq (tgt := 76) hx hb dX4_meanFrom_49 (by decide) (fun c => absurd c (by decide)) (fun _ => ?_)
      refine lv_lload hx hb dX4_meanFrom_52 (lv_at hl 0 rfl) ?_
      refine lv_iload hx hb dX4_meanFrom_54 (lv_at hl 2 rfl) ?_
      refine lv_i2l (v := lN (zTen wit kk f (hard (path place)))) hx hb dX4_meanFrom_56 (nI_l (by omega)) ?_
      refine lv_aload_n hx hb dX4_meanFrom_57 rfl (lv_at hl 4 rfl) ?_
      refine lv_aload_n hx hb dX4_meanFrom_58 rfl (lv_at hl 5 rfl) ?_
      refine lv_aload_n hx hb dX4_meanFrom_59 rfl (lv_at hl 6 rfl) ?_
      refine lv_iload_n hx hb dX4_meanFrom_60 rfl (lv_at hl 7 rfl) ?_
      refine lv_iload hx hb dX4_meanFrom_61 (lv_at hl 8 rfl) ?_
      refine lv_iload hx hb dX4_meanFrom_63 (lv_at hl 9 rfl) ?_
      refine lv_iconst (v := 1) hx hb dX4_meanFrom_65 (by decide) ?_
      refine lv_iadd hx hb dX4_meanFrom_66 ?_
      refine z_top (show ((nI place) + 1) = nI (place + 1) from nI_add place 1) ?_
      refine lv_lload hx hb dX4_meanFrom_67 (lv_at hl 1 rfl) ?_
      refine vp_callSl (z_runV (b := h0) (As := [.ref q_tx, .ref w0, .int (nI f), .int st, .int (nI (place + 1)), .long (lN (10 ^ d))]) (rest := [.long (lN (zTen wit kk f (hard (path place)))), .long 0]) hx hb hml hown hts hK hN hl.1 (ih f st (place + 1) (hf) (by omega)) gX4_meanFrom_X4_meanFrom rfl zd_X4_meanFrom rfl (by simp only [rmM]; omega) (by simp only [rmM]; omega) (va_P.sub (ws' := [(h0, .inr (4, [.ref q1, .ref q2, .int (nI osz), .long (lN owh), .long obm])), (q1, .inl (cI, 5, .inl (fun q_ => nI (path q_)))), (q_tx, .inr (9, [.ref t1, .ref t2, .int (nI lessons), .int (nI limit)])), (t1, .inl (cI, 5, .inl (fun q_ => nI (hard q_)))), (t2, .inl (cI, 5, .inl (fun q_ => nI (blows q_)))), (w0, .inr (zKi kk, [.int (nI wit)]))]) hP [0, 1, 2, 3, 4, 5] rfl) (va_recv hK hP (ci := 4) (q0 := 0) rfl rfl) rfl (Nat.le_of_ble_eq_true rfl) dX4_meanFrom_69 ⟨Nat.zero_le _, Nat.zero_le _⟩) (fun r hr => ?_)
      subst hr
      refine lv_lmul hx hb dX4_meanFrom_72 ?_
      refine z_topl (show ((lN (zTen wit kk f (hard (path place)))) * (lN (zMl wit kk limit hard blows (zSlice path (place + 1) d) f st))) = lN ((zTen wit kk f (hard (path place))) * (zMl wit kk limit hard blows (zSlice path (place + 1) d) f st)) from lN_mul (zTen wit kk f (hard (path place))) (zMl wit kk limit hard blows (zSlice path (place + 1) d) f st)) ?_
      refine lv_ladd hx hb dX4_meanFrom_73 ?_
      refine z_topl (show (0 + (lN ((zTen wit kk f (hard (path place))) * (zMl wit kk limit hard blows (zSlice path (place + 1) d) f st)))) = lN (0 + ((zTen wit kk f (hard (path place))) * (zMl wit kk limit hard blows (zSlice path (place + 1) d) f st))) from lN_add 0 ((zTen wit kk f (hard (path place))) * (zMl wit kk limit hard blows (zSlice path (place + 1) d) f st))) ?_
      refine lv_lstore (lv' := [(12, .long (lN (0 + ((zTen wit kk f (hard (path place))) * (zMl wit kk limit hard blows (zSlice path (place + 1) d) f st))))), (10, .long (lN (10 ^ d))), (9, .int (nI (zTen wit kk f (hard (path place))))), (8, .int (nI (path place))), (0, .ref h0), (1, .ref q_tx), (2, .ref w0), (3, .int (nI f)), (4, .int st), (5, .int (nI place)), (6, .long (lN (10 ^ (d + 1))))]) hx hb dX4_meanFrom_74 hl (by decide) rfl (fun ls hl => ?_)
      refine lv_iload hx hb dX4_meanFrom_76 (lv_at hl 2 rfl) ?_
      refine lv_iconst (v := 0) hx hb dX4_meanFrom_78 (by decide) ?_
      refine vp_callSi (z_runSN (As := [.int (nI (zTen wit kk f (hard (path place)))), .int 0]) (rest := []) hx hb hml hown hts hK hN hl.1 (c_X10_canBe l D cI cB cP (zTen wit kk f (hard (path place))) 0 (by have := @zTen_le wit kk f (hard (path place)); omega) (by omega)) gX4_meanFrom_X10_canBe_n66 rfl 57 rfl (List.mem_of_getElem? (i := 5) rfl) (List.mem_of_getElem? (i := 51) rfl) zd_X10_canBe rfl (by simp only [rmM]; omega) (by simp only [rmM]; omega) z_p0 rfl (Nat.le_of_ble_eq_true rfl) dX4_meanFrom_79 ⟨Nat.zero_le _, Nat.zero_le _⟩) (fun r hr => ?_)
      rcases hr with ⟨rfl, c_3⟩ | ⟨rfl, c_3⟩
      · skip
        refine lv_if_eq (tgt := 151) hx hb dX4_meanFrom_82 (by decide) (fun c => absurd c (by decide)) (fun _ => ?_)
        refine lv_aload_n hx hb dX4_meanFrom_85 rfl (lv_at hl 5 rfl) ?_
        refine lv_iload hx hb dX4_meanFrom_86 (lv_at hl 3 rfl) ?_
        refine vp_callSi (z_runVN (b := q_tx) (As := [.int (nI (path place))]) (rest := []) hx hb hml hown hts hK hN hl.1 (c_X9_blowsOf l D cI cB cP q_tx t1 t2 lessons limit blows (path place) (hpt _)) gX4_meanFrom_X9_blowsOf_n70 rfl 58 rfl (List.mem_of_getElem? (i := 8) rfl) (List.mem_of_getElem? (i := 57) rfl) (List.mem_of_getElem? (i := 58) rfl) zd_X9_blowsOf rfl (by simp only [rmM]; omega) (by simp only [rmM]; omega) (va_P.sub (ws' := [(q_tx, .inr (9, [.ref t1, .ref t2, .int (nI lessons), .int (nI limit)])), (t2, .inl (cI, 5, .inl (fun q_ => nI (blows q_))))]) hP [2, 4] rfl) (va_recv hK hP (ci := 9) (q0 := 2) rfl rfl) rfl (Nat.le_of_ble_eq_true rfl) dX4_meanFrom_88 ⟨Nat.zero_le _, Nat.zero_le _⟩) (fun r hr => ?_)
        subst hr
        refine lv_istore (lv' := [(14, .int (nI (blows (path place)))), (12, .long (lN (0 + ((zTen wit kk f (hard (path place))) * (zMl wit kk limit hard blows (zSlice path (place + 1) d) f st))))), (10, .long (lN (10 ^ d))), (9, .int (nI (zTen wit kk f (hard (path place))))), (8, .int (nI (path place))), (0, .ref h0), (1, .ref q_tx), (2, .ref w0), (3, .int (nI f)), (4, .int st), (5, .int (nI place)), (6, .long (lN (10 ^ (d + 1))))]) hx hb dX4_meanFrom_91 hl (by decide) rfl (fun ls hl => ?_)
        refine lv_iload hx hb dX4_meanFrom_93 (lv_at hl 9 rfl) ?_
        refine lv_iload hx hb dX4_meanFrom_95 (lv_at hl 0 rfl) ?_
        refine lv_iadd hx hb dX4_meanFrom_97 ?_
        refine lv_istore (lv' := [(15, .int (st + (nI (blows (path place))))), (14, .int (nI (blows (path place)))), (12, .long (lN (0 + ((zTen wit kk f (hard (path place))) * (zMl wit kk limit hard blows (zSlice path (place + 1) d) f st))))), (10, .long (lN (10 ^ d))), (9, .int (nI (zTen wit kk f (hard (path place))))), (8, .int (nI (path place))), (0, .ref h0), (1, .ref q_tx), (2, .ref w0), (3, .int (nI f)), (4, .int st), (5, .int (nI place)), (6, .long (lN (10 ^ (d + 1))))]) hx hb dX4_meanFrom_98 hl (by decide) rfl (fun ls hl => ?_)
        refine lv_iload_n hx hb dX4_meanFrom_100 rfl (lv_at hl 9 rfl) ?_
        refine lv_iload hx hb dX4_meanFrom_101 (lv_at hl 0 rfl) ?_
        refine lv_aload_n hx hb dX4_meanFrom_103 rfl (lv_at hl 7 rfl) ?_
        refine va_getN (D := D) (ci := 9) (v := .int (nI limit)) (C := RX9) (T := TX9) (N := 4) hx hb hts zi_X4_meanFrom_X9 hown hK hP 2 rfl rfl 3 (by decide) (hN.w (w := .fieldLinkNest RX4 74 "BeatenInstead$Text" "limit" "I" "BeatenInstead") 6 rfl rfl) (fun _ h9 => h9) rfl dX4_meanFrom_104 ?_
        refine vp_callSi (z_runSN (As := [.int (nI f), .int (st + (nI (blows (path place)))), .int (nI limit)]) (rest := []) hx hb hml hown hts hK hN hl.1 (c_X10_fondAfterBlows l D cI cB cP f (st + (nI (blows (path place)))) limit (by omega)) gX4_meanFrom_X10_fondAfterBlows_n77 rfl 59 rfl (List.mem_of_getElem? (i := 5) rfl) (List.mem_of_getElem? (i := 61) rfl) zd_X10_fondAfterBlows rfl (by simp only [rmM]; omega) (by simp only [rmM]; omega) z_p0 rfl (Nat.le_of_ble_eq_true rfl) dX4_meanFrom_107 ⟨Nat.zero_le _, Nat.zero_le _⟩) (fun r hr => ?_)
        subst hr
        refine lv_istore (lv' := [(16, .int (nI (zFond f (st + (nI (blows (path place)))) limit))), (15, .int (st + (nI (blows (path place))))), (14, .int (nI (blows (path place)))), (12, .long (lN (0 + ((zTen wit kk f (hard (path place))) * (zMl wit kk limit hard blows (zSlice path (place + 1) d) f st))))), (10, .long (lN (10 ^ d))), (9, .int (nI (zTen wit kk f (hard (path place))))), (8, .int (nI (path place))), (0, .ref h0), (1, .ref q_tx), (2, .ref w0), (3, .int (nI f)), (4, .int st), (5, .int (nI place)), (6, .long (lN (10 ^ (d + 1))))]) hx hb dX4_meanFrom_110 hl (by decide) rfl (fun ls hl => ?_)
        refine lv_aload_n hx hb dX4_meanFrom_112 rfl (lv_at hl 7 rfl) ?_
        refine lv_aload_n hx hb dX4_meanFrom_113 rfl (lv_at hl 8 rfl) ?_
        refine lv_aload_n hx hb dX4_meanFrom_114 rfl (lv_at hl 9 rfl) ?_
        refine lv_iload hx hb dX4_meanFrom_115 (lv_at hl 0 rfl) ?_
        refine lv_iload hx hb dX4_meanFrom_117 (lv_at hl 1 rfl) ?_
        refine lv_iload hx hb dX4_meanFrom_119 (lv_at hl 12 rfl) ?_
        refine lv_iconst (v := 1) hx hb dX4_meanFrom_121 (by decide) ?_
        refine lv_iadd hx hb dX4_meanFrom_122 ?_
        refine z_top (show ((nI place) + 1) = nI (place + 1) from nI_add place 1) ?_
        refine lv_lload hx hb dX4_meanFrom_123 (lv_at hl 4 rfl) ?_
        refine vp_callSl (z_runV (b := h0) (As := [.ref q_tx, .ref w0, .int (nI (zFond f (st + (nI (blows (path place)))) limit)), .int (st + (nI (blows (path place)))), .int (nI (place + 1)), .long (lN (10 ^ d))]) (rest := []) hx hb hml hown hts hK hN hl.1 (ih (zFond f (st + (nI (blows (path place)))) limit) (st + (nI (blows (path place)))) (place + 1) (zFond_le hf) (by omega)) gX4_meanFrom_X4_meanFrom rfl zd_X4_meanFrom rfl (by simp only [rmM]; omega) (by simp only [rmM]; omega) (va_P.sub (ws' := [(h0, .inr (4, [.ref q1, .ref q2, .int (nI osz), .long (lN owh), .long obm])), (q1, .inl (cI, 5, .inl (fun q_ => nI (path q_)))), (q_tx, .inr (9, [.ref t1, .ref t2, .int (nI lessons), .int (nI limit)])), (t1, .inl (cI, 5, .inl (fun q_ => nI (hard q_)))), (t2, .inl (cI, 5, .inl (fun q_ => nI (blows q_)))), (w0, .inr (zKi kk, [.int (nI wit)]))]) hP [0, 1, 2, 3, 4, 5] rfl) (va_recv hK hP (ci := 4) (q0 := 0) rfl rfl) rfl (Nat.le_of_ble_eq_true rfl) dX4_meanFrom_125 ⟨Nat.zero_le _, Nat.zero_le _⟩) (fun r hr => ?_)
        subst hr
        refine lv_lstore (lv' := [(17, .long (lN (zMl wit kk limit hard blows (zSlice path (place + 1) d) (zFond f (st + (nI (blows (path place)))) limit) (st + (nI (blows (path place))))))), (16, .int (nI (zFond f (st + (nI (blows (path place)))) limit))), (15, .int (st + (nI (blows (path place))))), (14, .int (nI (blows (path place)))), (12, .long (lN (0 + ((zTen wit kk f (hard (path place))) * (zMl wit kk limit hard blows (zSlice path (place + 1) d) f st))))), (10, .long (lN (10 ^ d))), (9, .int (nI (zTen wit kk f (hard (path place))))), (8, .int (nI (path place))), (0, .ref h0), (1, .ref q_tx), (2, .ref w0), (3, .int (nI f)), (4, .int st), (5, .int (nI place)), (6, .long (lN (10 ^ (d + 1))))]) hx hb dX4_meanFrom_128 hl (by decide) rfl (fun ls hl => ?_)
        refine lv_lload hx hb dX4_meanFrom_130 (lv_at hl 4 rfl) ?_
        refine lv_bipush (v := (10)) hx hb dX4_meanFrom_132 (by decide) ?_
        refine lv_iload hx hb dX4_meanFrom_134 (lv_at hl 6 rfl) ?_
        refine lv_isub hx hb dX4_meanFrom_136 ?_
        refine z_top (show (10 - (nI (zTen wit kk f (hard (path place))))) = nI (10 - (zTen wit kk f (hard (path place)))) from pk_sub (a := 10) (b := zTen wit kk f (hard (path place))) (by omega)) ?_
        refine lv_i2l (v := lN (10 - (zTen wit kk f (hard (path place))))) hx hb dX4_meanFrom_137 (nI_l (by omega)) ?_
        refine lv_iload hx hb dX4_meanFrom_138 (lv_at hl 3 rfl) ?_
        refine lv_i2l (v := lN (blows (path place))) hx hb dX4_meanFrom_140 (nI_l (by omega)) ?_
        refine lv_lload hx hb dX4_meanFrom_141 (lv_at hl 5 rfl) ?_
        refine lv_lmul hx hb dX4_meanFrom_143 ?_
        refine z_topl (show ((lN (blows (path place))) * (lN (10 ^ d))) = lN ((blows (path place)) * (10 ^ d)) from lN_mul (blows (path place)) (10 ^ d)) ?_
        refine lv_lload hx hb dX4_meanFrom_144 (lv_at hl 0 rfl) ?_
        refine lv_ladd hx hb dX4_meanFrom_146 ?_
        refine z_topl (show ((lN ((blows (path place)) * (10 ^ d))) + (lN (zMl wit kk limit hard blows (zSlice path (place + 1) d) (zFond f (st + (nI (blows (path place)))) limit) (st + (nI (blows (path place))))))) = lN ((blows (path place)) * (10 ^ d) + (zMl wit kk limit hard blows (zSlice path (place + 1) d) (zFond f (st + (nI (blows (path place)))) limit) (st + (nI (blows (path place)))))) from lN_add ((blows (path place)) * (10 ^ d)) (zMl wit kk limit hard blows (zSlice path (place + 1) d) (zFond f (st + (nI (blows (path place)))) limit) (st + (nI (blows (path place)))))) ?_
        refine lv_lmul hx hb dX4_meanFrom_147 ?_
        refine z_topl (show ((lN (10 - (zTen wit kk f (hard (path place))))) * (lN ((blows (path place)) * (10 ^ d) + (zMl wit kk limit hard blows (zSlice path (place + 1) d) (zFond f (st + (nI (blows (path place)))) limit) (st + (nI (blows (path place)))))))) = lN ((10 - (zTen wit kk f (hard (path place)))) * ((blows (path place)) * (10 ^ d) + (zMl wit kk limit hard blows (zSlice path (place + 1) d) (zFond f (st + (nI (blows (path place)))) limit) (st + (nI (blows (path place))))))) from lN_mul (10 - (zTen wit kk f (hard (path place)))) ((blows (path place)) * (10 ^ d) + (zMl wit kk limit hard blows (zSlice path (place + 1) d) (zFond f (st + (nI (blows (path place)))) limit) (st + (nI (blows (path place))))))) ?_
        refine lv_ladd hx hb dX4_meanFrom_148 ?_
        refine z_topl (show ((lN (0 + ((zTen wit kk f (hard (path place))) * (zMl wit kk limit hard blows (zSlice path (place + 1) d) f st)))) + (lN ((10 - (zTen wit kk f (hard (path place)))) * ((blows (path place)) * (10 ^ d) + (zMl wit kk limit hard blows (zSlice path (place + 1) d) (zFond f (st + (nI (blows (path place)))) limit) (st + (nI (blows (path place))))))))) = lN (0 + ((zTen wit kk f (hard (path place))) * (zMl wit kk limit hard blows (zSlice path (place + 1) d) f st)) + ((10 - (zTen wit kk f (hard (path place)))) * ((blows (path place)) * (10 ^ d) + (zMl wit kk limit hard blows (zSlice path (place + 1) d) (zFond f (st + (nI (blows (path place)))) limit) (st + (nI (blows (path place)))))))) from lN_add (0 + ((zTen wit kk f (hard (path place))) * (zMl wit kk limit hard blows (zSlice path (place + 1) d) f st))) ((10 - (zTen wit kk f (hard (path place)))) * ((blows (path place)) * (10 ^ d) + (zMl wit kk limit hard blows (zSlice path (place + 1) d) (zFond f (st + (nI (blows (path place)))) limit) (st + (nI (blows (path place)))))))) ?_
        refine lv_lstore (lv' := [(12, .long (lN (0 + ((zTen wit kk f (hard (path place))) * (zMl wit kk limit hard blows (zSlice path (place + 1) d) f st)) + ((10 - (zTen wit kk f (hard (path place)))) * ((blows (path place)) * (10 ^ d) + (zMl wit kk limit hard blows (zSlice path (place + 1) d) (zFond f (st + (nI (blows (path place)))) limit) (st + (nI (blows (path place)))))))))), (17, .long (lN (zMl wit kk limit hard blows (zSlice path (place + 1) d) (zFond f (st + (nI (blows (path place)))) limit) (st + (nI (blows (path place))))))), (16, .int (nI (zFond f (st + (nI (blows (path place)))) limit))), (15, .int (st + (nI (blows (path place))))), (14, .int (nI (blows (path place)))), (10, .long (lN (10 ^ d))), (9, .int (nI (zTen wit kk f (hard (path place))))), (8, .int (nI (path place))), (0, .ref h0), (1, .ref q_tx), (2, .ref w0), (3, .int (nI f)), (4, .int st), (5, .int (nI place)), (6, .long (lN (10 ^ (d + 1))))]) hx hb dX4_meanFrom_149 hl (by decide) rfl (fun ls hl => ?_)
        refine lv_lload hx hb dX4_meanFrom_151 (lv_at hl 0 rfl) ?_
        exact hret _ _ _ dX4_meanFrom_153 (by rw [zSlice, zMl, zSlice_len, Nat.zero_add])
      · skip
        refine lv_if_eq (tgt := 151) hx hb dX4_meanFrom_82 (by decide) (fun _ => ?_) (fun c => absurd c (by decide))
        refine lv_lload hx hb dX4_meanFrom_151 (lv_at hl 0 rfl) ?_
        exact hret _ _ _ dX4_meanFrom_153 (by rw [zSlice, zMl_c10 (by omega), Nat.zero_add])
    · skip
      refine lv_if_eq (tgt := 76) hx hb dX4_meanFrom_49 (by decide) (fun _ => ?_) (fun c => absurd c (by decide))
      refine lv_iload hx hb dX4_meanFrom_76 (lv_at hl 2 rfl) ?_
      refine lv_iconst (v := 0) hx hb dX4_meanFrom_78 (by decide) ?_
      refine vp_callSi (z_runSN (As := [.int (nI (zTen wit kk f (hard (path place)))), .int 0]) (rest := []) hx hb hml hown hts hK hN hl.1 (c_X10_canBe l D cI cB cP (zTen wit kk f (hard (path place))) 0 (by have := @zTen_le wit kk f (hard (path place)); omega) (by omega)) gX4_meanFrom_X10_canBe_n66 rfl 57 rfl (List.mem_of_getElem? (i := 5) rfl) (List.mem_of_getElem? (i := 51) rfl) zd_X10_canBe rfl (by simp only [rmM]; omega) (by simp only [rmM]; omega) z_p0 rfl (Nat.le_of_ble_eq_true rfl) dX4_meanFrom_79 ⟨Nat.zero_le _, Nat.zero_le _⟩) (fun r hr => ?_)
      rcases hr with ⟨rfl, c_3⟩ | ⟨rfl, c_3⟩
      · skip
        refine lv_if_eq (tgt := 151) hx hb dX4_meanFrom_82 (by decide) (fun c => absurd c (by decide)) (fun _ => ?_)
        refine lv_aload_n hx hb dX4_meanFrom_85 rfl (lv_at hl 5 rfl) ?_
        refine lv_iload hx hb dX4_meanFrom_86 (lv_at hl 3 rfl) ?_
        refine vp_callSi (z_runVN (b := q_tx) (As := [.int (nI (path place))]) (rest := []) hx hb hml hown hts hK hN hl.1 (c_X9_blowsOf l D cI cB cP q_tx t1 t2 lessons limit blows (path place) (hpt _)) gX4_meanFrom_X9_blowsOf_n70 rfl 58 rfl (List.mem_of_getElem? (i := 8) rfl) (List.mem_of_getElem? (i := 57) rfl) (List.mem_of_getElem? (i := 58) rfl) zd_X9_blowsOf rfl (by simp only [rmM]; omega) (by simp only [rmM]; omega) (va_P.sub (ws' := [(q_tx, .inr (9, [.ref t1, .ref t2, .int (nI lessons), .int (nI limit)])), (t2, .inl (cI, 5, .inl (fun q_ => nI (blows q_))))]) hP [2, 4] rfl) (va_recv hK hP (ci := 9) (q0 := 2) rfl rfl) rfl (Nat.le_of_ble_eq_true rfl) dX4_meanFrom_88 ⟨Nat.zero_le _, Nat.zero_le _⟩) (fun r hr => ?_)
        subst hr
        refine lv_istore (lv' := [(14, .int (nI (blows (path place)))), (12, .long 0), (10, .long (lN (10 ^ d))), (9, .int (nI (zTen wit kk f (hard (path place))))), (8, .int (nI (path place))), (0, .ref h0), (1, .ref q_tx), (2, .ref w0), (3, .int (nI f)), (4, .int st), (5, .int (nI place)), (6, .long (lN (10 ^ (d + 1))))]) hx hb dX4_meanFrom_91 hl (by decide) rfl (fun ls hl => ?_)
        refine lv_iload hx hb dX4_meanFrom_93 (lv_at hl 9 rfl) ?_
        refine lv_iload hx hb dX4_meanFrom_95 (lv_at hl 0 rfl) ?_
        refine lv_iadd hx hb dX4_meanFrom_97 ?_
        refine lv_istore (lv' := [(15, .int (st + (nI (blows (path place))))), (14, .int (nI (blows (path place)))), (12, .long 0), (10, .long (lN (10 ^ d))), (9, .int (nI (zTen wit kk f (hard (path place))))), (8, .int (nI (path place))), (0, .ref h0), (1, .ref q_tx), (2, .ref w0), (3, .int (nI f)), (4, .int st), (5, .int (nI place)), (6, .long (lN (10 ^ (d + 1))))]) hx hb dX4_meanFrom_98 hl (by decide) rfl (fun ls hl => ?_)
        refine lv_iload_n hx hb dX4_meanFrom_100 rfl (lv_at hl 9 rfl) ?_
        refine lv_iload hx hb dX4_meanFrom_101 (lv_at hl 0 rfl) ?_
        refine lv_aload_n hx hb dX4_meanFrom_103 rfl (lv_at hl 7 rfl) ?_
        refine va_getN (D := D) (ci := 9) (v := .int (nI limit)) (C := RX9) (T := TX9) (N := 4) hx hb hts zi_X4_meanFrom_X9 hown hK hP 2 rfl rfl 3 (by decide) (hN.w (w := .fieldLinkNest RX4 74 "BeatenInstead$Text" "limit" "I" "BeatenInstead") 6 rfl rfl) (fun _ h9 => h9) rfl dX4_meanFrom_104 ?_
        refine vp_callSi (z_runSN (As := [.int (nI f), .int (st + (nI (blows (path place)))), .int (nI limit)]) (rest := []) hx hb hml hown hts hK hN hl.1 (c_X10_fondAfterBlows l D cI cB cP f (st + (nI (blows (path place)))) limit (by omega)) gX4_meanFrom_X10_fondAfterBlows_n77 rfl 59 rfl (List.mem_of_getElem? (i := 5) rfl) (List.mem_of_getElem? (i := 61) rfl) zd_X10_fondAfterBlows rfl (by simp only [rmM]; omega) (by simp only [rmM]; omega) z_p0 rfl (Nat.le_of_ble_eq_true rfl) dX4_meanFrom_107 ⟨Nat.zero_le _, Nat.zero_le _⟩) (fun r hr => ?_)
        subst hr
        refine lv_istore (lv' := [(16, .int (nI (zFond f (st + (nI (blows (path place)))) limit))), (15, .int (st + (nI (blows (path place))))), (14, .int (nI (blows (path place)))), (12, .long 0), (10, .long (lN (10 ^ d))), (9, .int (nI (zTen wit kk f (hard (path place))))), (8, .int (nI (path place))), (0, .ref h0), (1, .ref q_tx), (2, .ref w0), (3, .int (nI f)), (4, .int st), (5, .int (nI place)), (6, .long (lN (10 ^ (d + 1))))]) hx hb dX4_meanFrom_110 hl (by decide) rfl (fun ls hl => ?_)
        refine lv_aload_n hx hb dX4_meanFrom_112 rfl (lv_at hl 7 rfl) ?_
        refine lv_aload_n hx hb dX4_meanFrom_113 rfl (lv_at hl 8 rfl) ?_
        refine lv_aload_n hx hb dX4_meanFrom_114 rfl (lv_at hl 9 rfl) ?_
        refine lv_iload hx hb dX4_meanFrom_115 (lv_at hl 0 rfl) ?_
        refine lv_iload hx hb dX4_meanFrom_117 (lv_at hl 1 rfl) ?_
        refine lv_iload hx hb dX4_meanFrom_119 (lv_at hl 12 rfl) ?_
        refine lv_iconst (v := 1) hx hb dX4_meanFrom_121 (by decide) ?_
        refine lv_iadd hx hb dX4_meanFrom_122 ?_
        refine z_top (show ((nI place) + 1) = nI (place + 1) from nI_add place 1) ?_
        refine lv_lload hx hb dX4_meanFrom_123 (lv_at hl 4 rfl) ?_
        refine vp_callSl (z_runV (b := h0) (As := [.ref q_tx, .ref w0, .int (nI (zFond f (st + (nI (blows (path place)))) limit)), .int (st + (nI (blows (path place)))), .int (nI (place + 1)), .long (lN (10 ^ d))]) (rest := []) hx hb hml hown hts hK hN hl.1 (ih (zFond f (st + (nI (blows (path place)))) limit) (st + (nI (blows (path place)))) (place + 1) (zFond_le hf) (by omega)) gX4_meanFrom_X4_meanFrom rfl zd_X4_meanFrom rfl (by simp only [rmM]; omega) (by simp only [rmM]; omega) (va_P.sub (ws' := [(h0, .inr (4, [.ref q1, .ref q2, .int (nI osz), .long (lN owh), .long obm])), (q1, .inl (cI, 5, .inl (fun q_ => nI (path q_)))), (q_tx, .inr (9, [.ref t1, .ref t2, .int (nI lessons), .int (nI limit)])), (t1, .inl (cI, 5, .inl (fun q_ => nI (hard q_)))), (t2, .inl (cI, 5, .inl (fun q_ => nI (blows q_)))), (w0, .inr (zKi kk, [.int (nI wit)]))]) hP [0, 1, 2, 3, 4, 5] rfl) (va_recv hK hP (ci := 4) (q0 := 0) rfl rfl) rfl (Nat.le_of_ble_eq_true rfl) dX4_meanFrom_125 ⟨Nat.zero_le _, Nat.zero_le _⟩) (fun r hr => ?_)
        subst hr
        refine lv_lstore (lv' := [(17, .long (lN (zMl wit kk limit hard blows (zSlice path (place + 1) d) (zFond f (st + (nI (blows (path place)))) limit) (st + (nI (blows (path place))))))), (16, .int (nI (zFond f (st + (nI (blows (path place)))) limit))), (15, .int (st + (nI (blows (path place))))), (14, .int (nI (blows (path place)))), (12, .long 0), (10, .long (lN (10 ^ d))), (9, .int (nI (zTen wit kk f (hard (path place))))), (8, .int (nI (path place))), (0, .ref h0), (1, .ref q_tx), (2, .ref w0), (3, .int (nI f)), (4, .int st), (5, .int (nI place)), (6, .long (lN (10 ^ (d + 1))))]) hx hb dX4_meanFrom_128 hl (by decide) rfl (fun ls hl => ?_)
        refine lv_lload hx hb dX4_meanFrom_130 (lv_at hl 4 rfl) ?_
        refine lv_bipush (v := (10)) hx hb dX4_meanFrom_132 (by decide) ?_
        refine lv_iload hx hb dX4_meanFrom_134 (lv_at hl 6 rfl) ?_
        refine lv_isub hx hb dX4_meanFrom_136 ?_
        refine z_top (show (10 - (nI (zTen wit kk f (hard (path place))))) = nI (10 - (zTen wit kk f (hard (path place)))) from pk_sub (a := 10) (b := zTen wit kk f (hard (path place))) (by omega)) ?_
        refine lv_i2l (v := lN (10 - (zTen wit kk f (hard (path place))))) hx hb dX4_meanFrom_137 (nI_l (by omega)) ?_
        refine lv_iload hx hb dX4_meanFrom_138 (lv_at hl 3 rfl) ?_
        refine lv_i2l (v := lN (blows (path place))) hx hb dX4_meanFrom_140 (nI_l (by omega)) ?_
        refine lv_lload hx hb dX4_meanFrom_141 (lv_at hl 5 rfl) ?_
        refine lv_lmul hx hb dX4_meanFrom_143 ?_
        refine z_topl (show ((lN (blows (path place))) * (lN (10 ^ d))) = lN ((blows (path place)) * (10 ^ d)) from lN_mul (blows (path place)) (10 ^ d)) ?_
        refine lv_lload hx hb dX4_meanFrom_144 (lv_at hl 0 rfl) ?_
        refine lv_ladd hx hb dX4_meanFrom_146 ?_
        refine z_topl (show ((lN ((blows (path place)) * (10 ^ d))) + (lN (zMl wit kk limit hard blows (zSlice path (place + 1) d) (zFond f (st + (nI (blows (path place)))) limit) (st + (nI (blows (path place))))))) = lN ((blows (path place)) * (10 ^ d) + (zMl wit kk limit hard blows (zSlice path (place + 1) d) (zFond f (st + (nI (blows (path place)))) limit) (st + (nI (blows (path place)))))) from lN_add ((blows (path place)) * (10 ^ d)) (zMl wit kk limit hard blows (zSlice path (place + 1) d) (zFond f (st + (nI (blows (path place)))) limit) (st + (nI (blows (path place)))))) ?_
        refine lv_lmul hx hb dX4_meanFrom_147 ?_
        refine z_topl (show ((lN (10 - (zTen wit kk f (hard (path place))))) * (lN ((blows (path place)) * (10 ^ d) + (zMl wit kk limit hard blows (zSlice path (place + 1) d) (zFond f (st + (nI (blows (path place)))) limit) (st + (nI (blows (path place)))))))) = lN ((10 - (zTen wit kk f (hard (path place)))) * ((blows (path place)) * (10 ^ d) + (zMl wit kk limit hard blows (zSlice path (place + 1) d) (zFond f (st + (nI (blows (path place)))) limit) (st + (nI (blows (path place))))))) from lN_mul (10 - (zTen wit kk f (hard (path place)))) ((blows (path place)) * (10 ^ d) + (zMl wit kk limit hard blows (zSlice path (place + 1) d) (zFond f (st + (nI (blows (path place)))) limit) (st + (nI (blows (path place))))))) ?_
        refine lv_ladd hx hb dX4_meanFrom_148 ?_
        refine z_topl (show (0 + (lN ((10 - (zTen wit kk f (hard (path place)))) * ((blows (path place)) * (10 ^ d) + (zMl wit kk limit hard blows (zSlice path (place + 1) d) (zFond f (st + (nI (blows (path place)))) limit) (st + (nI (blows (path place))))))))) = lN (0 + ((10 - (zTen wit kk f (hard (path place)))) * ((blows (path place)) * (10 ^ d) + (zMl wit kk limit hard blows (zSlice path (place + 1) d) (zFond f (st + (nI (blows (path place)))) limit) (st + (nI (blows (path place)))))))) from lN_add 0 ((10 - (zTen wit kk f (hard (path place)))) * ((blows (path place)) * (10 ^ d) + (zMl wit kk limit hard blows (zSlice path (place + 1) d) (zFond f (st + (nI (blows (path place)))) limit) (st + (nI (blows (path place)))))))) ?_
        refine lv_lstore (lv' := [(12, .long (lN (0 + ((10 - (zTen wit kk f (hard (path place)))) * ((blows (path place)) * (10 ^ d) + (zMl wit kk limit hard blows (zSlice path (place + 1) d) (zFond f (st + (nI (blows (path place)))) limit) (st + (nI (blows (path place)))))))))), (17, .long (lN (zMl wit kk limit hard blows (zSlice path (place + 1) d) (zFond f (st + (nI (blows (path place)))) limit) (st + (nI (blows (path place))))))), (16, .int (nI (zFond f (st + (nI (blows (path place)))) limit))), (15, .int (st + (nI (blows (path place))))), (14, .int (nI (blows (path place)))), (10, .long (lN (10 ^ d))), (9, .int (nI (zTen wit kk f (hard (path place))))), (8, .int (nI (path place))), (0, .ref h0), (1, .ref q_tx), (2, .ref w0), (3, .int (nI f)), (4, .int st), (5, .int (nI place)), (6, .long (lN (10 ^ (d + 1))))]) hx hb dX4_meanFrom_149 hl (by decide) rfl (fun ls hl => ?_)
        refine lv_lload hx hb dX4_meanFrom_151 (lv_at hl 0 rfl) ?_
        exact hret _ _ _ dX4_meanFrom_153 (by rw [zSlice, zMl_c0 (by omega), zSlice_len, Nat.zero_add])
      · skip
        refine lv_if_eq (tgt := 151) hx hb dX4_meanFrom_82 (by decide) (fun _ => ?_) (fun c => absurd c (by decide))
        refine lv_lload hx hb dX4_meanFrom_151 (lv_at hl 0 rfl) ?_
        exact hret _ _ _ dX4_meanFrom_153 (by exfalso; omega)
  · skip
    have c_1 : ¬ (place < osz) := (not_congr (nI_ltI (a := place) (b := osz) (by omega) (by omega))).mp c_1
    exact absurd hpl (by omega)
theorem c_X4_meanFrom (l : Launch) (D : va_G) (cI cB cP : ClassId) (h0 : Nat) (q_tx : Nat) (q1 : Nat) (q2 : Nat) (osz : Nat) (owh : Nat) (obm : Int64) (path : Nat → Nat) (t1 : Nat) (t2 : Nat) (lessons : Nat) (limit : Nat) (hard : Nat → Nat) (blows : Nat → Nat) (w0 : Nat) (kk : Nat) (wit : Nat) (hkk : kk < 5) (hwit : wit ≤ 9) (hha : ∀ i, hard i ≤ 9) (hbl : ∀ i, blows i ≤ 9) (hpt : ∀ j, path j < 5) (hosz : osz ≤ 5) : ∀ (d f : Nat) (st : Int32) (place : Nat), f ≤ 9 → place + d = osz → zPl l D cI cB cP yX4_meanFrom wsX4_meanFrom (rmM d) [.ref h0, .ref q_tx, .ref w0, .int (nI f), .int st, .int (nI place), .long (lN (10 ^ d))] [(h0, .inr (4, [.ref q1, .ref q2, .int (nI osz), .long (lN owh), .long obm])), (q1, .inl (cI, 5, .inl (fun q_ => nI (path q_)))), (q_tx, .inr (9, [.ref t1, .ref t2, .int (nI lessons), .int (nI limit)])), (t1, .inl (cI, 5, .inl (fun q_ => nI (hard q_)))), (t2, .inl (cI, 5, .inl (fun q_ => nI (blows q_)))), (w0, .inr (zKi kk, [.int (nI wit)]))] (fun r => r = lN (zMl wit kk limit hard blows (zSlice path place d) f st)) := by
  intro d
  induction d with
  | zero => intro f st place hf hpl; exact c_X4_meanFrom_z l D cI cB cP h0 q_tx q1 q2 osz owh obm path t1 t2 lessons limit hard blows w0 kk wit f st place hkk hwit hha hbl hpt hf (by omega) (by omega)
  | succ d ih => intro f st place hf hpl; exact c_X4_meanFrom_s l D cI cB cP h0 q_tx q1 q2 osz owh obm path t1 t2 lessons limit hard blows w0 kk wit f st place d hkk hwit hha hbl hpt hf (by omega) hpl hosz (fun f st place h1 h2 => ih f st place h1 h2)
