def zLesson (lessons : Nat) (hard blows learnt : Nat → Nat) (np : Nat) (l w : Int32) : Int32 :=
  if l < 0 ∨ ¬ l < nI lessons then -101 else if w = 0 then nI (hard l.toNatClampNeg) else if w = 1 then nI (blows l.toNatClampNeg) else if w = 2 then nI (zWho learnt l.toNatClampNeg np) else -102
def zStripes (lessons : Nat) (stripes : Nat → Int32) (b : Int32) : Int32 := if 0 < lessons ∧ ¬ b < 0 ∧ b < 3 then stripes b.toNatClampNeg else -101
def zAbout (np : Nat) (kd wt fond boys learnt : Nat → Nat) (n w : Int32) : Int32 :=
  if n < 0 ∨ ¬ n < nI np then -101 else if w = 0 then nI (kd n.toNatClampNeg) else if w = 1 then nI (wt n.toNatClampNeg) else if w = 2 then nI (boys n.toNatClampNeg)
  else if w = 3 then nI (zFeels (kd n.toNatClampNeg) (fond (n.toNatClampNeg * 3 + boys n.toNatClampNeg))) else if w = 4 then nI (learnt n.toNatClampNeg)
  else if ¬ w < 10 ∧ w < 13 then nI (fond (n.toNatClampNeg * 3 + (w - 10).toNatClampNeg)) else -102
theorem zAbout_3 {np : Nat} {kd wt fond boys learnt : Nat → Nat} {n : Int32} (h : ¬ (n < 0 ∨ ¬ n < nI np)) : zAbout np kd wt fond boys learnt n 3 = nI (zFeels (kd n.toNatClampNeg) (fond (n.toNatClampNeg * 3 + boys n.toNatClampNeg))) := by
  rw [zAbout, if_neg h, if_neg (by decide), if_neg (by decide), if_neg (by decide), if_pos rfl]
theorem z_w10 {w : Int32} : (¬ w - 10 < 0 ∧ w - 10 < 3) ↔ (¬ w < 10 ∧ w < 13) := by
  have e : (w - 10).toInt = (w.toInt - 10).bmod (2 ^ 32) := Int32.toInt_sub w 10
  have h1 := w.toInt_lt
  have h2 := w.le_toInt
  have e0 : (0 : Int32).toInt = 0 := rfl
  have e3 : (3 : Int32).toInt = 3 := rfl
  have e10 : (10 : Int32).toInt = 10 := rfl
  have e13 : (13 : Int32).toInt = 13 := rfl
  simp only [Int32.lt_iff_toInt_lt, e, e0, e3, e10, e13]
  rw [Int.bmod_def]
  omega
def zIs (k q : Nat) : Prop := q = 0 ∨ k = q ∨ (q = 1 ∧ k = 4)
def zAs (np : Nat) (kd : Nat → Nat) (n k : Int32) : Int32 :=
  if n < 0 ∨ ¬ n < nI np then -101 else if ¬ k < 0 ∧ k ≤ 4 then (if k.toNatClampNeg = 0 ∨ kd n.toNatClampNeg = k.toNatClampNeg ∨ (k.toNatClampNeg = 1 ∧ kd n.toNatClampNeg = 4) then n else -1) else -102
def zTenths (np lessons : Nat) (kd wt fond boys hard : Nat → Nat) (n l : Int32) : Int32 :=
  if (n < 0 ∨ ¬ n < nI np) ∨ (l < 0 ∨ ¬ l < nI lessons) then -101 else nI (zTen (wt n.toNatClampNeg) (kd n.toNatClampNeg) (fond (n.toNatClampNeg * 3 + boys n.toNatClampNeg)) (hard l.toNatClampNeg))
theorem zTen_le {w k f h : Nat} : zTen w k f h ≤ 10 := Nat.min_le_left _ _
theorem zi_X10_fault_X10 : ∀ w ∈ wsX100, w ∈ wsX10_fault := fun _ h => List.mem_cons_of_mem _ (List.mem_append_left _ (List.mem_append_right _ (h)))
abbrev rm_X10_fault : Room := { frames := 5, cells := 0, slots := 0, locals := 110 }
set_option maxHeartbeats 4000000 in
set_option maxRecDepth 100000 in
theorem c_X10_fault (l : Launch) (D : va_G) (cI cB cP : ClassId) (x : Nat) (x_pg : Nat) (x_tx : Nat) (x_pr : Nat) (x_nw : Nat) (x_kp : Nat) (x_tr : Nat) (x_or : Nat) (x_bl : Nat) (hI : Nat) (tR : Nat) (tO : Nat) (g1 : Nat) (size : Nat) (codes : Nat → Nat) (hsz : size ≤ 18) (hco : ∀ i, codes i < 127)  : zPi l D cI cB cP yX10_fault wsX10_fault rm_X10_fault [.ref x] ([(x, .inr (10, [.ref x_pg, .ref x_tx, .ref x_pr, .ref x_nw, .ref x_kp, .ref x_tr, .ref x_or, .ref x_bl, .int (nI hI), .int (nI tR), .int (nI tO)])), (x_pg, .inr (5, [.ref g1, .int (nI size)])), (g1, .inl (cI, 18, .inl (fun q_ => nI (codes q_))))]) (fun r => r = nI (zFault codes size)) := by
  refine zPi_of (cc := cX10_fault) (maxL := 1) (by decide) rfl (Nat.le_of_ble_eq_true rfl) ?_
  intro p e s m args below meth c ls Q hx hb hml hts hown hP hK hN hl hret
  have hown : s.vm.findClass RX10 = some m.cls := hown
  have hl : lv_has ls 1 [(0, .ref x)] := hl
  refine lv_aload_n hx hb dX10_fault_0 rfl (lv_at hl 0 rfl) ?_
  refine va_get (D := D) (ci := 10) (v := .ref x_pg) (C := RX10) (T := TX10) (N := 11) hx hb hts zi_X10_fault_X10 hown hK hP 0 rfl rfl 0 (by decide) (hts (.fieldLink RX10 12 "BeatenInstead" "page" "LBeatenInstead$Page;") (List.mem_of_getElem? (i := 1) rfl)) (fun _ h9 => h9) rfl dX10_fault_1 ?_
  refine vp_callSi (z_runVN (b := x_pg) (As := []) (rest := []) hx hb hml hown hts hK hN hl.1 (c_X5_firstFault l D cI cB cP x_pg g1 size codes (hsz) (hco)) gX10_fault_X5_firstFault_n74 rfl 24 rfl (List.mem_of_getElem? (i := 3) rfl) (List.mem_of_getElem? (i := 2) rfl) (List.mem_of_getElem? (i := 4) rfl) zd_X5_firstFault rfl (Nat.le_of_ble_eq_true rfl) (Nat.le_of_ble_eq_true rfl) (va_P.sub (ws' := [(x_pg, .inr (5, [.ref g1, .int (nI size)])), (g1, .inl (cI, 18, .inl (fun q_ => nI (codes q_))))]) hP [1, 2] rfl) (va_recv hK hP (ci := 5) (q0 := 1) rfl rfl) rfl (Nat.le_of_ble_eq_true rfl) dX10_fault_4 ⟨Nat.zero_le _, Nat.zero_le _⟩) (fun r hr => ?_)
  subst hr
  exact hret _ _ _ dX10_fault_7 rfl

theorem zi_X10_lesson_X10 : ∀ w ∈ wsX100, w ∈ wsX10_lesson := fun _ h => List.mem_cons_of_mem _ (List.mem_append_left _ (List.mem_append_left _ (List.mem_append_right _ (h))))
abbrev rm_X10_lesson : Room := { frames := 3, cells := 0, slots := 0, locals := 65 }
set_option maxHeartbeats 4000000 in
set_option maxRecDepth 100000 in
theorem c_X10_lesson (l : Launch) (D : va_G) (cI cB cP : ClassId) (x : Nat) (x_pg : Nat) (x_tx : Nat) (x_pr : Nat) (x_nw : Nat) (x_kp : Nat) (x_tr : Nat) (x_or : Nat) (x_bl : Nat) (hI : Nat) (tR : Nat) (tO : Nat) (np : Nat) (a1 : Nat) (a2 : Nat) (a3 : Nat) (a4 : Nat) (nh : Nat) (a5 : Nat) (a6 : Nat) (a7 : Nat) (t1 : Nat) (t2 : Nat) (lessons : Nat) (limit : Nat) (hard : Nat → Nat) (blows : Nat → Nat) (learnt : Nat → Nat) (l_ : Int32) (w : Int32) (hnp : np ≤ 3) (hls : lessons ≤ 5) (hle : ∀ i, learnt i < 32)  : zPi l D cI cB cP yX10_lesson wsX10_lesson rm_X10_lesson [.ref x, .int l_, .int w] ([(x, .inr (10, [.ref x_pg, .ref x_tx, .ref x_pr, .ref x_nw, .ref x_kp, .ref x_tr, .ref x_or, .ref x_bl, .int (nI hI), .int (nI tR), .int (nI tO)])), (x_tx, .inr (9, [.ref t1, .ref t2, .int (nI lessons), .int (nI limit)])), (t1, .inl (cI, 5, .inl (fun q_ => nI (hard q_)))), (t2, .inl (cI, 5, .inl (fun q_ => nI (blows q_)))), (x_nw, .inr (8, [.int (nI np), .ref a1, .ref a2, .ref a3, .ref a4, .int (nI nh), .ref a5, .ref a6, .ref a7])), (a3, .inl (cI, 3, .inl (fun q_ => nI (learnt q_))))]) (fun r => r = zLesson lessons hard blows learnt np l_ w) := by
  refine zPi_of (cc := cX10_lesson) (maxL := 3) (by decide) rfl (Nat.le_of_ble_eq_true rfl) ?_
  intro p e s m args below meth c ls Q hx hb hml hts hown hP hK hN hl hret
  have hown : s.vm.findClass RX10 = some m.cls := hown
  have hl : lv_has ls 3 [(0, .ref x), (1, .int l_), (2, .int w)] := hl
  refine lv_aload_n hx hb dX10_lesson_0 rfl (lv_at hl 0 rfl) ?_
  refine va_get (D := D) (ci := 10) (v := .ref x_tx) (C := RX10) (T := TX10) (N := 11) hx hb hts zi_X10_lesson_X10 hown hK hP 0 rfl rfl 1 (by decide) (hts (.fieldLink RX10 19 "BeatenInstead" "text" "LBeatenInstead$Text;") (List.mem_of_getElem? (i := 1) rfl)) (fun _ h9 => h9) rfl dX10_lesson_1 ?_
  refine lv_iload_n hx hb dX10_lesson_4 rfl (lv_at hl 1 rfl) ?_
  refine vp_callSi (z_runVN (b := x_tx) (As := [.int l_]) (rest := []) hx hb hml hown hts hK hN hl.1 (c_X9_has l D cI cB cP x_tx t1 t2 lessons limit l_) gX10_lesson_X9_has_n92 rfl 32 rfl (List.mem_of_getElem? (i := 4) rfl) (List.mem_of_getElem? (i := 3) rfl) (List.mem_of_getElem? (i := 5) rfl) zd_X9_has rfl (Nat.le_of_ble_eq_true rfl) (Nat.le_of_ble_eq_true rfl) (va_P.sub (ws' := [(x_tx, .inr (9, [.ref t1, .ref t2, .int (nI lessons), .int (nI limit)]))]) hP [1] rfl) (va_recv hK hP (ci := 9) (q0 := 1) rfl rfl) rfl (Nat.le_of_ble_eq_true rfl) dX10_lesson_5 ⟨Nat.zero_le _, Nat.zero_le _⟩) (fun r hr => ?_)
  rcases hr with ⟨rfl, c_1⟩ | ⟨rfl, c_1⟩
  · skip
    refine lv_if_ne (tgt := 14) hx hb dX10_lesson_8 (by decide) (fun _ => ?_) (fun c => absurd c (by decide))
    obtain ⟨i, hi_, rfl⟩ := z_natlt c_1.1 c_1.2 (by omega)
    refine lv_iload_n hx hb dX10_lesson_14 rfl (lv_at hl 2 rfl) ?_
    by_cases w_0 : w = 0
    · subst w_0
      refine lv_tableIn (tgt := 40) (off := 25) hx hb dX10_lesson_15 (by decide +kernel) (by decide +kernel) (by decide +kernel) (by decide) ?_
      refine lv_aload_n hx hb dX10_lesson_40 rfl (lv_at hl 0 rfl) ?_
      refine va_get (D := D) (ci := 10) (v := .ref x_tx) (C := RX10) (T := TX10) (N := 11) hx hb hts zi_X10_lesson_X10 hown hK hP 0 rfl rfl 1 (by decide) (hts (.fieldLink RX10 19 "BeatenInstead" "text" "LBeatenInstead$Text;") (List.mem_of_getElem? (i := 1) rfl)) (fun _ h9 => h9) rfl dX10_lesson_41 ?_
      refine lv_iload_n hx hb dX10_lesson_44 rfl (lv_at hl 1 rfl) ?_
      refine vp_callSi (z_runVN (b := x_tx) (As := [.int (nI i)]) (rest := []) hx hb hml hown hts hK hN hl.1 (c_X9_hardOf l D cI cB cP x_tx t1 t2 lessons limit hard i (by omega)) gX10_lesson_X9_hardOf_n96 rfl 33 rfl (List.mem_of_getElem? (i := 4) rfl) (List.mem_of_getElem? (i := 8) rfl) (List.mem_of_getElem? (i := 9) rfl) zd_X9_hardOf rfl (Nat.le_of_ble_eq_true rfl) (Nat.le_of_ble_eq_true rfl) (va_P.sub (ws' := [(x_tx, .inr (9, [.ref t1, .ref t2, .int (nI lessons), .int (nI limit)])), (t1, .inl (cI, 5, .inl (fun q_ => nI (hard q_))))]) hP [1, 2] rfl) (va_recv hK hP (ci := 9) (q0 := 1) rfl rfl) rfl (Nat.le_of_ble_eq_true rfl) dX10_lesson_45 ⟨Nat.zero_le _, Nat.zero_le _⟩) (fun r hr => ?_)
      subst hr
      exact hret _ _ _ dX10_lesson_48 (by rw [zLesson, if_neg (z_l5 hi_ hls), nI_clamp (by omega)]; rfl)
    by_cases w_1 : w = 1
    · subst w_1
      refine lv_tableIn (tgt := 49) (off := 34) hx hb dX10_lesson_15 (by decide +kernel) (by decide +kernel) (by decide +kernel) (by decide) ?_
      refine lv_aload_n hx hb dX10_lesson_49 rfl (lv_at hl 0 rfl) ?_
      refine va_get (D := D) (ci := 10) (v := .ref x_tx) (C := RX10) (T := TX10) (N := 11) hx hb hts zi_X10_lesson_X10 hown hK hP 0 rfl rfl 1 (by decide) (hts (.fieldLink RX10 19 "BeatenInstead" "text" "LBeatenInstead$Text;") (List.mem_of_getElem? (i := 1) rfl)) (fun _ h9 => h9) rfl dX10_lesson_50 ?_
      refine lv_iload_n hx hb dX10_lesson_53 rfl (lv_at hl 1 rfl) ?_
      refine vp_callSi (z_runVN (b := x_tx) (As := [.int (nI i)]) (rest := []) hx hb hml hown hts hK hN hl.1 (c_X9_blowsOf l D cI cB cP x_tx t1 t2 lessons limit blows i (by omega)) gX10_lesson_X9_blowsOf_n100 rfl 35 rfl (List.mem_of_getElem? (i := 4) rfl) (List.mem_of_getElem? (i := 15) rfl) (List.mem_of_getElem? (i := 16) rfl) zd_X9_blowsOf rfl (Nat.le_of_ble_eq_true rfl) (Nat.le_of_ble_eq_true rfl) (va_P.sub (ws' := [(x_tx, .inr (9, [.ref t1, .ref t2, .int (nI lessons), .int (nI limit)])), (t2, .inl (cI, 5, .inl (fun q_ => nI (blows q_))))]) hP [1, 3] rfl) (va_recv hK hP (ci := 9) (q0 := 1) rfl rfl) rfl (Nat.le_of_ble_eq_true rfl) dX10_lesson_54 ⟨Nat.zero_le _, Nat.zero_le _⟩) (fun r hr => ?_)
      subst hr
      exact hret _ _ _ dX10_lesson_57 (by rw [zLesson, if_neg (z_l5 hi_ hls), nI_clamp (by omega)]; rfl)
    by_cases w_2 : w = 2
    · subst w_2
      refine lv_tableIn (tgt := 58) (off := 43) hx hb dX10_lesson_15 (by decide +kernel) (by decide +kernel) (by decide +kernel) (by decide) ?_
      refine lv_aload_n hx hb dX10_lesson_58 rfl (lv_at hl 0 rfl) ?_
      refine va_get (D := D) (ci := 10) (v := .ref x_nw) (C := RX10) (T := TX10) (N := 11) hx hb hts zi_X10_lesson_X10 hown hK hP 0 rfl rfl 3 (by decide) (hts (.fieldLink RX10 32 "BeatenInstead" "now" "LBeatenInstead$Standing;") (List.mem_of_getElem? (i := 2) rfl)) (fun _ h9 => h9) rfl dX10_lesson_59 ?_
      refine lv_iload_n hx hb dX10_lesson_62 rfl (lv_at hl 1 rfl) ?_
      refine vp_callSi (z_runVN (b := x_nw) (As := [.int (nI i)]) (rest := []) hx hb hml hown hts hK hN hl.1 (c_X8_whoLearnt l D cI cB cP x_nw np a1 a2 a3 a4 nh a5 a6 a7 learnt i (by omega) (by first | assumption | omega) (hle)) gX10_lesson_X8_whoLearnt_n103 rfl 36 rfl (List.mem_of_getElem? (i := 20) rfl) (List.mem_of_getElem? (i := 19) rfl) (List.mem_of_getElem? (i := 21) rfl) zd_X8_whoLearnt rfl (Nat.le_of_ble_eq_true rfl) (Nat.le_of_ble_eq_true rfl) (va_P.sub (ws' := [(x_nw, .inr (8, [.int (nI np), .ref a1, .ref a2, .ref a3, .ref a4, .int (nI nh), .ref a5, .ref a6, .ref a7])), (a3, .inl (cI, 3, .inl (fun q_ => nI (learnt q_))))]) hP [4, 5] rfl) (va_recv hK hP (ci := 8) (q0 := 4) rfl rfl) rfl (Nat.le_of_ble_eq_true rfl) dX10_lesson_63 ⟨Nat.zero_le _, Nat.zero_le _⟩) (fun r hr => ?_)
      subst hr
      exact hret _ _ _ dX10_lesson_66 (by rw [zLesson, if_neg (z_l5 hi_ hls), nI_clamp (by omega)]; rfl)
    refine lv_tableOut (tgt := 67) hx hb dX10_lesson_15 (by have e0 := z_ne (k := 0) w_0 (by omega); have e1 := z_ne (k := 1) w_1 (by omega); have e2 := z_ne (k := 2) w_2 (by omega); omega) (by decide) ?_
    refine lv_bipush (v := (-102)) hx hb dX10_lesson_67 (by decide) ?_
    exact hret _ _ _ dX10_lesson_69 (by rw [zLesson, if_neg (z_l5 hi_ hls)]; simp [w_0, w_1, w_2])
  · skip
    refine lv_if_ne (tgt := 14) hx hb dX10_lesson_8 (by decide) (fun c => absurd c (by decide)) (fun _ => ?_)
    refine lv_bipush (v := (-101)) hx hb dX10_lesson_11 (by decide) ?_
    exact hret _ _ _ dX10_lesson_13 (by rw [zLesson, if_pos (by by_cases h : l_ < 0; exact Or.inl h; exact Or.inr (fun h2 => c_1 ⟨h, h2⟩))])

theorem zi_X10_stripes_X10 : ∀ w ∈ wsX100, w ∈ wsX10_stripes := fun _ h => List.mem_cons_of_mem _ (List.mem_append_left _ (List.mem_append_left _ (List.mem_append_right _ (h))))
abbrev rm_X10_stripes : Room := { frames := 2, cells := 0, slots := 0, locals := 42 }
set_option maxHeartbeats 4000000 in
set_option maxRecDepth 100000 in
theorem c_X10_stripes (l : Launch) (D : va_G) (cI cB cP : ClassId) (x : Nat) (x_pg : Nat) (x_tx : Nat) (x_pr : Nat) (x_nw : Nat) (x_kp : Nat) (x_tr : Nat) (x_or : Nat) (x_bl : Nat) (hI : Nat) (tR : Nat) (tO : Nat) (np : Nat) (a1 : Nat) (a2 : Nat) (a3 : Nat) (a4 : Nat) (nh : Nat) (a5 : Nat) (a6 : Nat) (a7 : Nat) (t1 : Nat) (t2 : Nat) (lessons : Nat) (limit : Nat) (stripes : Nat → Int32) (b_ : Int32) (hls : lessons ≤ 5)  : zPi l D cI cB cP yX10_stripes wsX10_stripes rm_X10_stripes [.ref x, .int b_] ([(x, .inr (10, [.ref x_pg, .ref x_tx, .ref x_pr, .ref x_nw, .ref x_kp, .ref x_tr, .ref x_or, .ref x_bl, .int (nI hI), .int (nI tR), .int (nI tO)])), (x_tx, .inr (9, [.ref t1, .ref t2, .int (nI lessons), .int (nI limit)])), (x_nw, .inr (8, [.int (nI np), .ref a1, .ref a2, .ref a3, .ref a4, .int (nI nh), .ref a5, .ref a6, .ref a7])), (a4, .inl (cI, 3, .inl (stripes)))]) (fun r => r = zStripes lessons stripes b_) := by
  refine zPi_of (cc := cX10_stripes) (maxL := 2) (by decide) rfl (Nat.le_of_ble_eq_true rfl) ?_
  intro p e s m args below meth c ls Q hx hb hml hts hown hP hK hN hl hret
  have hown : s.vm.findClass RX10 = some m.cls := hown
  have hl : lv_has ls 2 [(0, .ref x), (1, .int b_)] := hl
  refine lv_aload_n hx hb dX10_stripes_0 rfl (lv_at hl 0 rfl) ?_
  refine va_get (D := D) (ci := 10) (v := .ref x_tx) (C := RX10) (T := TX10) (N := 11) hx hb hts zi_X10_stripes_X10 hown hK hP 0 rfl rfl 1 (by decide) (hts (.fieldLink RX10 19 "BeatenInstead" "text" "LBeatenInstead$Text;") (List.mem_of_getElem? (i := 1) rfl)) (fun _ h9 => h9) rfl dX10_stripes_1 ?_
  refine vp_callSi (z_runVN (b := x_tx) (As := []) (rest := []) hx hb hml hown hts hK hN hl.1 (c_X9_isRead l D cI cB cP x_tx t1 t2 lessons limit (by first | assumption | omega)) gX10_stripes_X9_isRead_n106 rfl 39 rfl (List.mem_of_getElem? (i := 4) rfl) (List.mem_of_getElem? (i := 3) rfl) (List.mem_of_getElem? (i := 5) rfl) zd_X9_isRead rfl (Nat.le_of_ble_eq_true rfl) (Nat.le_of_ble_eq_true rfl) (va_P.sub (ws' := [(x_tx, .inr (9, [.ref t1, .ref t2, .int (nI lessons), .int (nI limit)]))]) hP [1] rfl) (va_recv hK hP (ci := 9) (q0 := 1) rfl rfl) rfl (Nat.le_of_ble_eq_true rfl) dX10_stripes_4 ⟨Nat.zero_le _, Nat.zero_le _⟩) (fun r hr => ?_)
  rcases hr with ⟨rfl, c_1⟩ | ⟨rfl, c_1⟩
  · skip
    refine lv_if_eq (tgt := 28) hx hb dX10_stripes_7 (by decide) (fun c => absurd c (by decide)) (fun _ => ?_)
    refine lv_iload_n hx hb dX10_stripes_10 rfl (lv_at hl 1 rfl) ?_
    refine vp_callSi (z_runS (As := [.int b_]) (rest := []) hx hb hml hown hts hK hN hl.1 (c_X10_isBoy l D cI cB cP b_) gX10_stripes_X10_isBoy rfl zd_X10_isBoy rfl (Nat.le_of_ble_eq_true rfl) (Nat.le_of_ble_eq_true rfl) z_p0 rfl (Nat.le_of_ble_eq_true rfl) dX10_stripes_11 ⟨Nat.zero_le _, Nat.zero_le _⟩) (fun r hr => ?_)
    rcases hr with ⟨rfl, c_2⟩ | ⟨rfl, c_2⟩
    · skip
      refine lv_if_eq (tgt := 28) hx hb dX10_stripes_14 (by decide) (fun c => absurd c (by decide)) (fun _ => ?_)
      obtain ⟨i, hi_, rfl⟩ := z_natlt c_2.1 (n := 3) c_2.2 (by omega)
      refine lv_aload_n hx hb dX10_stripes_17 rfl (lv_at hl 0 rfl) ?_
      refine va_get (D := D) (ci := 10) (v := .ref x_nw) (C := RX10) (T := TX10) (N := 11) hx hb hts zi_X10_stripes_X10 hown hK hP 0 rfl rfl 3 (by decide) (hts (.fieldLink RX10 32 "BeatenInstead" "now" "LBeatenInstead$Standing;") (List.mem_of_getElem? (i := 2) rfl)) (fun _ h9 => h9) rfl dX10_stripes_18 ?_
      refine lv_iload_n hx hb dX10_stripes_21 rfl (lv_at hl 1 rfl) ?_
      refine vp_callSi (z_runVN (b := x_nw) (As := [.int (nI i)]) (rest := []) hx hb hml hown hts hK hN hl.1 (c_X8_stripesOf l D cI cB cP x_nw np a1 a2 a3 a4 nh a5 a6 a7 stripes i (by first | exact hby _ | omega)) gX10_stripes_X8_stripesOf_n112 rfl 40 rfl (List.mem_of_getElem? (i := 13) rfl) (List.mem_of_getElem? (i := 12) rfl) (List.mem_of_getElem? (i := 14) rfl) zd_X8_stripesOf rfl (Nat.le_of_ble_eq_true rfl) (Nat.le_of_ble_eq_true rfl) (va_P.sub (ws' := [(x_nw, .inr (8, [.int (nI np), .ref a1, .ref a2, .ref a3, .ref a4, .int (nI nh), .ref a5, .ref a6, .ref a7])), (a4, .inl (cI, 3, .inl (stripes)))]) hP [2, 3] rfl) (va_recv hK hP (ci := 8) (q0 := 2) rfl rfl) rfl (Nat.le_of_ble_eq_true rfl) dX10_stripes_22 ⟨Nat.zero_le _, Nat.zero_le _⟩) (fun r hr => ?_)
      subst hr
      refine lv_goto (tgt := 30) hx hb dX10_stripes_25 (by decide) ?_
      exact hret _ _ _ dX10_stripes_30 (by rw [zStripes, if_pos ⟨c_1, c_2⟩, nI_clamp (by omega)])
    · skip
      refine lv_if_eq (tgt := 28) hx hb dX10_stripes_14 (by decide) (fun _ => ?_) (fun c => absurd c (by decide))
      refine lv_bipush (v := (-101)) hx hb dX10_stripes_28 (by decide) ?_
      exact hret _ _ _ dX10_stripes_30 (by rw [zStripes, if_neg (fun h => c_2 h.2)])
  · skip
    refine lv_if_eq (tgt := 28) hx hb dX10_stripes_7 (by decide) (fun _ => ?_) (fun c => absurd c (by decide))
    refine lv_bipush (v := (-101)) hx hb dX10_stripes_28 (by decide) ?_
    exact hret _ _ _ dX10_stripes_30 (by rw [zStripes, if_neg (fun h => c_1 h.1)])

theorem zi_X10_about_X1 : ∀ w ∈ wsX10, w ∈ wsX10_about := fun _ h => List.mem_cons_of_mem _ (List.mem_append_left _ (List.mem_append_left _ (List.mem_append_left _ (List.mem_append_left _ (List.mem_append_left _ (List.mem_append_left _ (List.mem_append_right _ (h))))))))
theorem zi_X10_about_X10 : ∀ w ∈ wsX100, w ∈ wsX10_about := fun _ h => List.mem_cons_of_mem _ (List.mem_append_left _ (List.mem_append_right _ (h)))
theorem zi_X10_about_X2 : ∀ w ∈ wsX20, w ∈ wsX10_about := fun _ h => List.mem_cons_of_mem _ (List.mem_append_left _ (List.mem_append_left _ (List.mem_append_left _ (List.mem_append_left _ (List.mem_append_left _ (List.mem_append_right _ (h)))))))
theorem zi_X10_about_X3 : ∀ w ∈ wsX30, w ∈ wsX10_about := fun _ h => List.mem_cons_of_mem _ (List.mem_append_left _ (List.mem_append_left _ (List.mem_append_left _ (List.mem_append_left _ (List.mem_append_right _ (h))))))
theorem zi_X10_about_X6 : ∀ w ∈ wsX60, w ∈ wsX10_about := fun _ h => List.mem_cons_of_mem _ (List.mem_append_left _ (List.mem_append_left _ (List.mem_append_left _ (List.mem_append_right _ (h)))))
theorem zi_X10_about_X7 : ∀ w ∈ wsX70, w ∈ wsX10_about := fun _ h => List.mem_cons_of_mem _ (List.mem_append_left _ (List.mem_append_left _ (List.mem_append_right _ (h))))
abbrev rm_X10_about : Room := { frames := 3, cells := 0, slots := 0, locals := 64 }
set_option maxHeartbeats 4000000 in
set_option maxRecDepth 100000 in
theorem c_X10_about (l : Launch) (D : va_G) (cI cB cP : ClassId) (x : Nat) (x_pg : Nat) (x_tx : Nat) (x_pr : Nat) (x_nw : Nat) (x_kp : Nat) (x_tr : Nat) (x_or : Nat) (x_bl : Nat) (hI : Nat) (tR : Nat) (tO : Nat) (np : Nat) (a1 : Nat) (a2 : Nat) (a3 : Nat) (a4 : Nat) (nh : Nat) (a5 : Nat) (a6 : Nat) (a7 : Nat) (fond : Nat → Nat) (boys : Nat → Nat) (learnt : Nat → Nat) (pool : va_W) (pr : Nat → Option Nat) (kd : Nat → Nat) (wt : Nat → Nat) (num : Int32) (w : Int32) (hnp : np ≤ 3) (hpool : zPool pool pr kd wt np) (hkd : ∀ i, kd i < 5) (hwt : ∀ i, wt i ≤ 9) (hfo : ∀ i, fond i ≤ 9) (hby : ∀ i, boys i < 3) (hle : ∀ i, learnt i < 32)  : zPi l D cI cB cP yX10_about wsX10_about rm_X10_about [.ref x, .int num, .int w] ([(x, .inr (10, [.ref x_pg, .ref x_tx, .ref x_pr, .ref x_nw, .ref x_kp, .ref x_tr, .ref x_or, .ref x_bl, .int (nI hI), .int (nI tR), .int (nI tO)])), (x_nw, .inr (8, [.int (nI np), .ref a1, .ref a2, .ref a3, .ref a4, .int (nI nh), .ref a5, .ref a6, .ref a7])), (x_pr, .inl (cP, 3, .inr (.inr (.inr (.inr (pr)))))), (a1, .inl (cI, 9, .inl (fun q_ => nI (fond q_)))), (a2, .inl (cI, 3, .inl (fun q_ => nI (boys q_)))), (a3, .inl (cI, 3, .inl (fun q_ => nI (learnt q_))))] ++ pool) (fun r => r = zAbout np kd wt fond boys learnt num w) := by
  refine zPi_of (cc := cX10_about) (maxL := 4) (by decide) rfl (Nat.le_of_ble_eq_true rfl) ?_
  intro p e s m args below meth c ls Q hx hb hml hts hown hP hK hN hl hret
  have hown : s.vm.findClass RX10 = some m.cls := hown
  have hl : lv_has ls 4 [(0, .ref x), (1, .int num), (2, .int w)] := hl
  refine lv_aload_n hx hb dX10_about_0 rfl (lv_at hl 0 rfl) ?_
  refine lv_iload_n hx hb dX10_about_1 rfl (lv_at hl 1 rfl) ?_
  refine va_csq (z_runV (b := x) (As := [.int num]) (rest := []) hx hb hml hown hts hK hN hl.1 (c_X10_princeOf l D cI cB cP x x_pg x_tx x_pr x_nw x_kp x_tr x_or x_bl hI tR tO np a1 a2 a3 a4 nh a5 a6 a7 pr num (by first | assumption | omega)) gX10_about_X10_princeOf rfl zd_X10_princeOf rfl (Nat.le_of_ble_eq_true rfl) (Nat.le_of_ble_eq_true rfl) (va_P.sub (ws' := [(x, .inr (10, [.ref x_pg, .ref x_tx, .ref x_pr, .ref x_nw, .ref x_kp, .ref x_tr, .ref x_or, .ref x_bl, .int (nI hI), .int (nI tR), .int (nI tO)])), (x_nw, .inr (8, [.int (nI np), .ref a1, .ref a2, .ref a3, .ref a4, .int (nI nh), .ref a5, .ref a6, .ref a7])), (x_pr, .inl (cP, 3, .inr (.inr (.inr (.inr (pr))))))]) (z_pf hP) [0, 1, 2] rfl) (va_recv hK hP (ci := 10) (q0 := 0) rfl rfl) rfl (Nat.le_of_ble_eq_true rfl) dX10_about_2 ⟨Nat.zero_le _, Nat.zero_le _⟩) (fun r hr => ?_)
  rcases z_po hr hpool hnp with ⟨rfl, hpo⟩ | ⟨pn, a, hp, epo, rfl, hmem⟩
  · skip
    refine lv_astore_nN (lv' := [(3, .null), (0, .ref x), (1, .int num), (2, .int w)]) hx hb dX10_about_5 rfl hl (by decide) rfl (fun ls hl => ?_)
    refine lv_aload_nN hx hb dX10_about_6 rfl (lv_at hl 0 rfl) ?_
    refine lv_ifnonnullN hx hb dX10_about_7 ?_
    refine lv_bipush (v := (-101)) hx hb dX10_about_10 (by decide) ?_
    exact hret _ _ _ dX10_about_12 (by rw [zAbout, if_pos hpo])
  · subst epo
    obtain ⟨k0, hk0⟩ : ∃ k0, kd pn = k0 := ⟨_, rfl⟩
    have hk5 : k0 < 5 := by rw [← hk0]; exact hkd pn
    rw [hk0] at hmem
    refine lv_astore_n (lv' := [(3, .ref a), (0, .ref x), (1, .int (nI pn)), (2, .int w)]) hx hb dX10_about_5 rfl hl (by decide) rfl (fun ls hl => ?_)
    refine lv_aload_n hx hb dX10_about_6 rfl (lv_at hl 0 rfl) ?_
    refine lv_ifnonnull (tgt := 13) hx hb dX10_about_7 (by decide) ?_
    refine lv_iload_n hx hb dX10_about_13 rfl (lv_at hl 3 rfl) ?_
    by_cases w_0 : w = 0
    · subst w_0
      refine lv_tableIn (tgt := 48) (off := 34) hx hb dX10_about_14 (by decide +kernel) (by decide +kernel) (by decide +kernel) (by decide) ?_
      rcases z_k5 hk5 with rfl | rfl | rfl | rfl | rfl
      · skip
        refine lv_aload_n hx hb dX10_about_48 rfl (lv_at hl 0 rfl) ?_
        refine vp_callSi (z_runV (b := a) (As := []) (rest := []) hx hb hml hown hts hK hN hl.1 (c_X6_kind l D cI cB cP a) gX10_about_X6_kind rfl zd_X6_kind rfl (Nat.le_of_ble_eq_true rfl) (Nat.le_of_ble_eq_true rfl) z_p0 (va_recv hK (z_p1 (z_pp hP) hmem) (ci := 6) (q0 := 0) rfl rfl) rfl (Nat.le_of_ble_eq_true rfl) dX10_about_49 ⟨Nat.zero_le _, Nat.zero_le _⟩) (fun r hr => ?_)
        subst hr
        exact hret _ _ _ dX10_about_52 (by rw [zAbout, if_neg (z_pn hp hnp), nI_clamp (by omega), if_pos rfl, hk0])
      · skip
        refine lv_aload_n hx hb dX10_about_48 rfl (lv_at hl 0 rfl) ?_
        refine vp_callSi (va_Run.run (va_runU (As := []) (rest := []) ⟨hx, hb, hml, hown, hts⟩ (c_X7_kind l D cI cB cP a) (va_cwO 0 hts gX10_about_X7_kind_u131X7 rfl rfl rfl (x := ⟨"BeatenInstead$Prince", "kind", "()I"⟩) (List.mem_of_getElem? (i := 16) rfl) (by decide +kernel) ⟨Nat.le_of_ble_eq_true rfl, Nat.le_of_ble_eq_true rfl⟩) ⟨zR_blind, (va_recv hK (z_p1 (z_pp hP) hmem) (ci := 7) (q0 := 0) rfl rfl), zR_pre z_p0 hK hN⟩ rfl rfl hl.1 rfl (lv_room (Nat.le_of_ble_eq_true rfl)) dX10_about_49 ⟨Nat.zero_le _, Nat.zero_le _⟩)) (fun r hr => ?_)
        subst hr
        exact hret _ _ _ dX10_about_52 (by rw [zAbout, if_neg (z_pn hp hnp), nI_clamp (by omega), if_pos rfl, hk0])
      · skip
        refine lv_aload_n hx hb dX10_about_48 rfl (lv_at hl 0 rfl) ?_
        refine vp_callSi (va_Run.run (va_runU (As := []) (rest := []) ⟨hx, hb, hml, hown, hts⟩ (c_X1_kind l D cI cB cP a) (va_cwO 0 hts gX10_about_X1_kind_u131X1 rfl rfl rfl (x := ⟨"BeatenInstead$Prince", "kind", "()I"⟩) (List.mem_of_getElem? (i := 16) rfl) (by decide +kernel) ⟨Nat.le_of_ble_eq_true rfl, Nat.le_of_ble_eq_true rfl⟩) ⟨zR_blind, (va_recv hK (z_p1 (z_pp hP) hmem) (ci := 1) (q0 := 0) rfl rfl), zR_pre z_p0 hK hN⟩ rfl rfl hl.1 rfl (lv_room (Nat.le_of_ble_eq_true rfl)) dX10_about_49 ⟨Nat.zero_le _, Nat.zero_le _⟩)) (fun r hr => ?_)
        subst hr
        exact hret _ _ _ dX10_about_52 (by rw [zAbout, if_neg (z_pn hp hnp), nI_clamp (by omega), if_pos rfl, hk0])
      · skip
        refine lv_aload_n hx hb dX10_about_48 rfl (lv_at hl 0 rfl) ?_
        refine vp_callSi (va_Run.run (va_runU (As := []) (rest := []) ⟨hx, hb, hml, hown, hts⟩ (c_X3_kind l D cI cB cP a) (va_cwO 0 hts gX10_about_X3_kind_u131X3 rfl rfl rfl (x := ⟨"BeatenInstead$Prince", "kind", "()I"⟩) (List.mem_of_getElem? (i := 16) rfl) (by decide +kernel) ⟨Nat.le_of_ble_eq_true rfl, Nat.le_of_ble_eq_true rfl⟩) ⟨zR_blind, (va_recv hK (z_p1 (z_pp hP) hmem) (ci := 3) (q0 := 0) rfl rfl), zR_pre z_p0 hK hN⟩ rfl rfl hl.1 rfl (lv_room (Nat.le_of_ble_eq_true rfl)) dX10_about_49 ⟨Nat.zero_le _, Nat.zero_le _⟩)) (fun r hr => ?_)
        subst hr
        exact hret _ _ _ dX10_about_52 (by rw [zAbout, if_neg (z_pn hp hnp), nI_clamp (by omega), if_pos rfl, hk0])
      · skip
        refine lv_aload_n hx hb dX10_about_48 rfl (lv_at hl 0 rfl) ?_
        refine vp_callSi (va_Run.run (va_runU (As := []) (rest := []) ⟨hx, hb, hml, hown, hts⟩ (c_X2_kind l D cI cB cP a) (va_cwO 0 hts gX10_about_X2_kind_u131X2 rfl rfl rfl (x := ⟨"BeatenInstead$Prince", "kind", "()I"⟩) (List.mem_of_getElem? (i := 16) rfl) (by decide +kernel) ⟨Nat.le_of_ble_eq_true rfl, Nat.le_of_ble_eq_true rfl⟩) ⟨zR_blind, (va_recv hK (z_p1 (z_pp hP) hmem) (ci := 2) (q0 := 0) rfl rfl), zR_pre z_p0 hK hN⟩ rfl rfl hl.1 rfl (lv_room (Nat.le_of_ble_eq_true rfl)) dX10_about_49 ⟨Nat.zero_le _, Nat.zero_le _⟩)) (fun r hr => ?_)
        subst hr
        exact hret _ _ _ dX10_about_52 (by rw [zAbout, if_neg (z_pn hp hnp), nI_clamp (by omega), if_pos rfl, hk0])
    by_cases w_1 : w = 1
    · subst w_1
      refine lv_tableIn (tgt := 53) (off := 39) hx hb dX10_about_14 (by decide +kernel) (by decide +kernel) (by decide +kernel) (by decide) ?_
      rcases z_k5 hk5 with rfl | rfl | rfl | rfl | rfl
      · skip
        refine lv_aload_n hx hb dX10_about_53 rfl (lv_at hl 0 rfl) ?_
        refine va_get (D := D) (ci := 6) (v := .int (nI (wt pn))) (C := RX6) (T := TX6) (N := 1) hx hb hts zi_X10_about_X6 hown hK (z_p1 (z_pp hP) hmem) 0 rfl rfl 0 (by decide) (hts (.fieldLink RX10 134 "BeatenInstead$Prince" "wit" "I") (List.mem_of_getElem? (i := 1) rfl)) (fun _ h9 => h9) rfl dX10_about_54 ?_
        exact hret _ _ _ dX10_about_57 (by rw [zAbout, if_neg (z_pn hp hnp), nI_clamp (by omega), if_neg (by decide), if_pos rfl])
      · skip
        refine lv_aload_n hx hb dX10_about_53 rfl (lv_at hl 0 rfl) ?_
        refine va_get (D := D) (ci := 7) (v := .int (nI (wt pn))) (C := RX7) (T := TX7) (N := 1) hx hb hts zi_X10_about_X7 hown hK (z_p1 (z_pp hP) hmem) 0 rfl rfl 0 (by decide) (hts (.fieldLink RX10 134 "BeatenInstead$Prince" "wit" "I") (List.mem_of_getElem? (i := 1) rfl)) (fun _ h9 => h9) rfl dX10_about_54 ?_
        exact hret _ _ _ dX10_about_57 (by rw [zAbout, if_neg (z_pn hp hnp), nI_clamp (by omega), if_neg (by decide), if_pos rfl])
      · skip
        refine lv_aload_n hx hb dX10_about_53 rfl (lv_at hl 0 rfl) ?_
        refine va_get (D := D) (ci := 1) (v := .int (nI (wt pn))) (C := RX1) (T := TX1) (N := 1) hx hb hts zi_X10_about_X1 hown hK (z_p1 (z_pp hP) hmem) 0 rfl rfl 0 (by decide) (hts (.fieldLink RX10 134 "BeatenInstead$Prince" "wit" "I") (List.mem_of_getElem? (i := 1) rfl)) (fun _ h9 => h9) rfl dX10_about_54 ?_
        exact hret _ _ _ dX10_about_57 (by rw [zAbout, if_neg (z_pn hp hnp), nI_clamp (by omega), if_neg (by decide), if_pos rfl])
      · skip
        refine lv_aload_n hx hb dX10_about_53 rfl (lv_at hl 0 rfl) ?_
        refine va_get (D := D) (ci := 3) (v := .int (nI (wt pn))) (C := RX3) (T := TX3) (N := 1) hx hb hts zi_X10_about_X3 hown hK (z_p1 (z_pp hP) hmem) 0 rfl rfl 0 (by decide) (hts (.fieldLink RX10 134 "BeatenInstead$Prince" "wit" "I") (List.mem_of_getElem? (i := 1) rfl)) (fun _ h9 => h9) rfl dX10_about_54 ?_
        exact hret _ _ _ dX10_about_57 (by rw [zAbout, if_neg (z_pn hp hnp), nI_clamp (by omega), if_neg (by decide), if_pos rfl])
      · skip
        refine lv_aload_n hx hb dX10_about_53 rfl (lv_at hl 0 rfl) ?_
        refine va_get (D := D) (ci := 2) (v := .int (nI (wt pn))) (C := RX2) (T := TX2) (N := 1) hx hb hts zi_X10_about_X2 hown hK (z_p1 (z_pp hP) hmem) 0 rfl rfl 0 (by decide) (hts (.fieldLink RX10 134 "BeatenInstead$Prince" "wit" "I") (List.mem_of_getElem? (i := 1) rfl)) (fun _ h9 => h9) rfl dX10_about_54 ?_
        exact hret _ _ _ dX10_about_57 (by rw [zAbout, if_neg (z_pn hp hnp), nI_clamp (by omega), if_neg (by decide), if_pos rfl])
    by_cases w_2 : w = 2
    · subst w_2
      refine lv_tableIn (tgt := 58) (off := 44) hx hb dX10_about_14 (by decide +kernel) (by decide +kernel) (by decide +kernel) (by decide) ?_
      refine lv_aload_n hx hb dX10_about_58 rfl (lv_at hl 1 rfl) ?_
      refine va_get (D := D) (ci := 10) (v := .ref x_nw) (C := RX10) (T := TX10) (N := 11) hx hb hts zi_X10_about_X10 hown hK hP 0 rfl rfl 3 (by decide) (hts (.fieldLink RX10 32 "BeatenInstead" "now" "LBeatenInstead$Standing;") (List.mem_of_getElem? (i := 2) rfl)) (fun _ h9 => h9) rfl dX10_about_59 ?_
      refine lv_iload_n hx hb dX10_about_62 rfl (lv_at hl 2 rfl) ?_
      refine vp_callSi (z_runVN (b := x_nw) (As := [.int (nI pn)]) (rest := []) hx hb hml hown hts hK hN hl.1 (c_X8_boyOf l D cI cB cP x_nw np a1 a2 a3 a4 nh a5 a6 a7 boys pn (by omega)) gX10_about_X8_boyOf_n137 rfl 43 rfl (List.mem_of_getElem? (i := 34) rfl) (List.mem_of_getElem? (i := 33) rfl) (List.mem_of_getElem? (i := 35) rfl) zd_X8_boyOf rfl (Nat.le_of_ble_eq_true rfl) (Nat.le_of_ble_eq_true rfl) (va_P.sub (ws' := [(x_nw, .inr (8, [.int (nI np), .ref a1, .ref a2, .ref a3, .ref a4, .int (nI nh), .ref a5, .ref a6, .ref a7])), (a2, .inl (cI, 3, .inl (fun q_ => nI (boys q_))))]) (z_pf hP) [1, 4] rfl) (va_recv hK hP (ci := 8) (q0 := 1) rfl rfl) rfl (Nat.le_of_ble_eq_true rfl) dX10_about_63 ⟨Nat.zero_le _, Nat.zero_le _⟩) (fun r hr => ?_)
      subst hr
      exact hret _ _ _ dX10_about_66 (by rw [zAbout, if_neg (z_pn hp hnp), nI_clamp (by omega), if_neg (by decide), if_neg (by decide), if_pos rfl])
    by_cases w_3 : w = 3
    · subst w_3
      refine lv_tableIn (tgt := 67) (off := 53) hx hb dX10_about_14 (by decide +kernel) (by decide +kernel) (by decide +kernel) (by decide) ?_
      rcases z_k5 hk5 with rfl | rfl | rfl | rfl | rfl
      · skip
        refine lv_aload_n hx hb dX10_about_67 rfl (lv_at hl 0 rfl) ?_
        refine lv_aload_n hx hb dX10_about_68 rfl (lv_at hl 1 rfl) ?_
        refine va_get (D := D) (ci := 10) (v := .ref x_nw) (C := RX10) (T := TX10) (N := 11) hx hb hts zi_X10_about_X10 hown hK hP 0 rfl rfl 3 (by decide) (hts (.fieldLink RX10 32 "BeatenInstead" "now" "LBeatenInstead$Standing;") (List.mem_of_getElem? (i := 2) rfl)) (fun _ h9 => h9) rfl dX10_about_69 ?_
        refine lv_iload_n hx hb dX10_about_72 rfl (lv_at hl 2 rfl) ?_
        refine vp_callSi (z_runVN (b := x_nw) (As := [.int (nI pn)]) (rest := [.ref a]) hx hb hml hown hts hK hN hl.1 (c_X8_fondOfHisBoy l D cI cB cP x_nw np a1 a2 a3 a4 nh a5 a6 a7 fond boys pn (by omega) (hby _)) gX10_about_X8_fondOfHisBoy_n140 rfl 44 rfl (List.mem_of_getElem? (i := 34) rfl) (List.mem_of_getElem? (i := 40) rfl) (List.mem_of_getElem? (i := 41) rfl) zd_X8_fondOfHisBoy rfl (Nat.le_of_ble_eq_true rfl) (Nat.le_of_ble_eq_true rfl) (va_P.sub (ws' := [(x_nw, .inr (8, [.int (nI np), .ref a1, .ref a2, .ref a3, .ref a4, .int (nI nh), .ref a5, .ref a6, .ref a7])), (a1, .inl (cI, 9, .inl (fun q_ => nI (fond q_)))), (a2, .inl (cI, 3, .inl (fun q_ => nI (boys q_))))]) (z_pf hP) [1, 3, 4] rfl) (va_recv hK hP (ci := 8) (q0 := 1) rfl rfl) rfl (Nat.le_of_ble_eq_true rfl) dX10_about_73 ⟨Nat.zero_le _, Nat.zero_le _⟩) (fun r hr => ?_)
        subst hr
        refine vp_callSi (z_runV (b := a) (As := [.int (nI (fond (pn * 3 + boys pn)))]) (rest := []) hx hb hml hown hts hK hN hl.1 (c_X6_feels l D cI cB cP a (fond (pn * 3 + boys pn)) (hfo _)) gX10_about_X6_feels rfl zd_X6_feels rfl (Nat.le_of_ble_eq_true rfl) (Nat.le_of_ble_eq_true rfl) z_p0 (va_recv hK (z_p1 (z_pp hP) hmem) (ci := 6) (q0 := 0) rfl rfl) rfl (Nat.le_of_ble_eq_true rfl) dX10_about_76 ⟨Nat.zero_le _, Nat.zero_le _⟩) (fun r hr => ?_)
        subst hr
        exact hret _ _ _ dX10_about_79 (by rw [zAbout_3 (z_pn hp hnp), nI_clamp (by omega), hk0]; simp [zFeels])
      · skip
        refine lv_aload_n hx hb dX10_about_67 rfl (lv_at hl 0 rfl) ?_
        refine lv_aload_n hx hb dX10_about_68 rfl (lv_at hl 1 rfl) ?_
        refine va_get (D := D) (ci := 10) (v := .ref x_nw) (C := RX10) (T := TX10) (N := 11) hx hb hts zi_X10_about_X10 hown hK hP 0 rfl rfl 3 (by decide) (hts (.fieldLink RX10 32 "BeatenInstead" "now" "LBeatenInstead$Standing;") (List.mem_of_getElem? (i := 2) rfl)) (fun _ h9 => h9) rfl dX10_about_69 ?_
        refine lv_iload_n hx hb dX10_about_72 rfl (lv_at hl 2 rfl) ?_
        refine vp_callSi (z_runVN (b := x_nw) (As := [.int (nI pn)]) (rest := [.ref a]) hx hb hml hown hts hK hN hl.1 (c_X8_fondOfHisBoy l D cI cB cP x_nw np a1 a2 a3 a4 nh a5 a6 a7 fond boys pn (by omega) (hby _)) gX10_about_X8_fondOfHisBoy_n140 rfl 44 rfl (List.mem_of_getElem? (i := 34) rfl) (List.mem_of_getElem? (i := 40) rfl) (List.mem_of_getElem? (i := 41) rfl) zd_X8_fondOfHisBoy rfl (Nat.le_of_ble_eq_true rfl) (Nat.le_of_ble_eq_true rfl) (va_P.sub (ws' := [(x_nw, .inr (8, [.int (nI np), .ref a1, .ref a2, .ref a3, .ref a4, .int (nI nh), .ref a5, .ref a6, .ref a7])), (a1, .inl (cI, 9, .inl (fun q_ => nI (fond q_)))), (a2, .inl (cI, 3, .inl (fun q_ => nI (boys q_))))]) (z_pf hP) [1, 3, 4] rfl) (va_recv hK hP (ci := 8) (q0 := 1) rfl rfl) rfl (Nat.le_of_ble_eq_true rfl) dX10_about_73 ⟨Nat.zero_le _, Nat.zero_le _⟩) (fun r hr => ?_)
        subst hr
        refine vp_callSi (va_Run.run (va_runU (As := [.int (nI (fond (pn * 3 + boys pn)))]) (rest := []) ⟨hx, hb, hml, hown, hts⟩ (c_X7_feels l D cI cB cP a (fond (pn * 3 + boys pn)) (hfo _)) (va_cwO 1 hts gX10_about_X7_feels_u143X7 rfl rfl rfl (x := ⟨"BeatenInstead$Prince", "feels", "(I)I"⟩) (List.mem_of_getElem? (i := 55) rfl) (by decide +kernel) ⟨Nat.le_of_ble_eq_true rfl, Nat.le_of_ble_eq_true rfl⟩) ⟨zR_blind, (va_recv hK (z_p1 (z_pp hP) hmem) (ci := 7) (q0 := 0) rfl rfl), zR_pre z_p0 hK hN⟩ rfl rfl hl.1 rfl (lv_room (Nat.le_of_ble_eq_true rfl)) dX10_about_76 ⟨Nat.zero_le _, Nat.zero_le _⟩)) (fun r hr => ?_)
        subst hr
        exact hret _ _ _ dX10_about_79 (by rw [zAbout_3 (z_pn hp hnp), nI_clamp (by omega), hk0]; simp [zFeels])
      · skip
        refine lv_aload_n hx hb dX10_about_67 rfl (lv_at hl 0 rfl) ?_
        refine lv_aload_n hx hb dX10_about_68 rfl (lv_at hl 1 rfl) ?_
        refine va_get (D := D) (ci := 10) (v := .ref x_nw) (C := RX10) (T := TX10) (N := 11) hx hb hts zi_X10_about_X10 hown hK hP 0 rfl rfl 3 (by decide) (hts (.fieldLink RX10 32 "BeatenInstead" "now" "LBeatenInstead$Standing;") (List.mem_of_getElem? (i := 2) rfl)) (fun _ h9 => h9) rfl dX10_about_69 ?_
        refine lv_iload_n hx hb dX10_about_72 rfl (lv_at hl 2 rfl) ?_
        refine vp_callSi (z_runVN (b := x_nw) (As := [.int (nI pn)]) (rest := [.ref a]) hx hb hml hown hts hK hN hl.1 (c_X8_fondOfHisBoy l D cI cB cP x_nw np a1 a2 a3 a4 nh a5 a6 a7 fond boys pn (by omega) (hby _)) gX10_about_X8_fondOfHisBoy_n140 rfl 44 rfl (List.mem_of_getElem? (i := 34) rfl) (List.mem_of_getElem? (i := 40) rfl) (List.mem_of_getElem? (i := 41) rfl) zd_X8_fondOfHisBoy rfl (Nat.le_of_ble_eq_true rfl) (Nat.le_of_ble_eq_true rfl) (va_P.sub (ws' := [(x_nw, .inr (8, [.int (nI np), .ref a1, .ref a2, .ref a3, .ref a4, .int (nI nh), .ref a5, .ref a6, .ref a7])), (a1, .inl (cI, 9, .inl (fun q_ => nI (fond q_)))), (a2, .inl (cI, 3, .inl (fun q_ => nI (boys q_))))]) (z_pf hP) [1, 3, 4] rfl) (va_recv hK hP (ci := 8) (q0 := 1) rfl rfl) rfl (Nat.le_of_ble_eq_true rfl) dX10_about_73 ⟨Nat.zero_le _, Nat.zero_le _⟩) (fun r hr => ?_)
        subst hr
        refine vp_callSi (va_Run.run (va_runU (As := [.int (nI (fond (pn * 3 + boys pn)))]) (rest := []) ⟨hx, hb, hml, hown, hts⟩ (c_X1_feels l D cI cB cP a (fond (pn * 3 + boys pn)) (hfo _)) (va_cwO 1 hts gX10_about_X1_feels_u143X1 rfl rfl rfl (x := ⟨"BeatenInstead$Prince", "feels", "(I)I"⟩) (List.mem_of_getElem? (i := 55) rfl) (by decide +kernel) ⟨Nat.le_of_ble_eq_true rfl, Nat.le_of_ble_eq_true rfl⟩) ⟨zR_blind, (va_recv hK (z_p1 (z_pp hP) hmem) (ci := 1) (q0 := 0) rfl rfl), zR_pre z_p0 hK hN⟩ rfl rfl hl.1 rfl (lv_room (Nat.le_of_ble_eq_true rfl)) dX10_about_76 ⟨Nat.zero_le _, Nat.zero_le _⟩)) (fun r hr => ?_)
        subst hr
        exact hret _ _ _ dX10_about_79 (by rw [zAbout_3 (z_pn hp hnp), nI_clamp (by omega), hk0]; simp [zFeels])
      · skip
        refine lv_aload_n hx hb dX10_about_67 rfl (lv_at hl 0 rfl) ?_
        refine lv_aload_n hx hb dX10_about_68 rfl (lv_at hl 1 rfl) ?_
        refine va_get (D := D) (ci := 10) (v := .ref x_nw) (C := RX10) (T := TX10) (N := 11) hx hb hts zi_X10_about_X10 hown hK hP 0 rfl rfl 3 (by decide) (hts (.fieldLink RX10 32 "BeatenInstead" "now" "LBeatenInstead$Standing;") (List.mem_of_getElem? (i := 2) rfl)) (fun _ h9 => h9) rfl dX10_about_69 ?_
        refine lv_iload_n hx hb dX10_about_72 rfl (lv_at hl 2 rfl) ?_
        refine vp_callSi (z_runVN (b := x_nw) (As := [.int (nI pn)]) (rest := [.ref a]) hx hb hml hown hts hK hN hl.1 (c_X8_fondOfHisBoy l D cI cB cP x_nw np a1 a2 a3 a4 nh a5 a6 a7 fond boys pn (by omega) (hby _)) gX10_about_X8_fondOfHisBoy_n140 rfl 44 rfl (List.mem_of_getElem? (i := 34) rfl) (List.mem_of_getElem? (i := 40) rfl) (List.mem_of_getElem? (i := 41) rfl) zd_X8_fondOfHisBoy rfl (Nat.le_of_ble_eq_true rfl) (Nat.le_of_ble_eq_true rfl) (va_P.sub (ws' := [(x_nw, .inr (8, [.int (nI np), .ref a1, .ref a2, .ref a3, .ref a4, .int (nI nh), .ref a5, .ref a6, .ref a7])), (a1, .inl (cI, 9, .inl (fun q_ => nI (fond q_)))), (a2, .inl (cI, 3, .inl (fun q_ => nI (boys q_))))]) (z_pf hP) [1, 3, 4] rfl) (va_recv hK hP (ci := 8) (q0 := 1) rfl rfl) rfl (Nat.le_of_ble_eq_true rfl) dX10_about_73 ⟨Nat.zero_le _, Nat.zero_le _⟩) (fun r hr => ?_)
        subst hr
        refine vp_callSi (va_Run.run (va_runU (As := [.int (nI (fond (pn * 3 + boys pn)))]) (rest := []) ⟨hx, hb, hml, hown, hts⟩ (c_X3_feels l D cI cB cP a (fond (pn * 3 + boys pn)) (hfo _)) (va_cwO 1 hts gX10_about_X3_feels_u143X3 rfl rfl rfl (x := ⟨"BeatenInstead$Prince", "feels", "(I)I"⟩) (List.mem_of_getElem? (i := 55) rfl) (by decide +kernel) ⟨Nat.le_of_ble_eq_true rfl, Nat.le_of_ble_eq_true rfl⟩) ⟨zR_blind, (va_recv hK (z_p1 (z_pp hP) hmem) (ci := 3) (q0 := 0) rfl rfl), zR_pre z_p0 hK hN⟩ rfl rfl hl.1 rfl (lv_room (Nat.le_of_ble_eq_true rfl)) dX10_about_76 ⟨Nat.zero_le _, Nat.zero_le _⟩)) (fun r hr => ?_)
        subst hr
        exact hret _ _ _ dX10_about_79 (by rw [zAbout_3 (z_pn hp hnp), nI_clamp (by omega), hk0]; simp [zFeels])
      · skip
        refine lv_aload_n hx hb dX10_about_67 rfl (lv_at hl 0 rfl) ?_
        refine lv_aload_n hx hb dX10_about_68 rfl (lv_at hl 1 rfl) ?_
        refine va_get (D := D) (ci := 10) (v := .ref x_nw) (C := RX10) (T := TX10) (N := 11) hx hb hts zi_X10_about_X10 hown hK hP 0 rfl rfl 3 (by decide) (hts (.fieldLink RX10 32 "BeatenInstead" "now" "LBeatenInstead$Standing;") (List.mem_of_getElem? (i := 2) rfl)) (fun _ h9 => h9) rfl dX10_about_69 ?_
        refine lv_iload_n hx hb dX10_about_72 rfl (lv_at hl 2 rfl) ?_
        refine vp_callSi (z_runVN (b := x_nw) (As := [.int (nI pn)]) (rest := [.ref a]) hx hb hml hown hts hK hN hl.1 (c_X8_fondOfHisBoy l D cI cB cP x_nw np a1 a2 a3 a4 nh a5 a6 a7 fond boys pn (by omega) (hby _)) gX10_about_X8_fondOfHisBoy_n140 rfl 44 rfl (List.mem_of_getElem? (i := 34) rfl) (List.mem_of_getElem? (i := 40) rfl) (List.mem_of_getElem? (i := 41) rfl) zd_X8_fondOfHisBoy rfl (Nat.le_of_ble_eq_true rfl) (Nat.le_of_ble_eq_true rfl) (va_P.sub (ws' := [(x_nw, .inr (8, [.int (nI np), .ref a1, .ref a2, .ref a3, .ref a4, .int (nI nh), .ref a5, .ref a6, .ref a7])), (a1, .inl (cI, 9, .inl (fun q_ => nI (fond q_)))), (a2, .inl (cI, 3, .inl (fun q_ => nI (boys q_))))]) (z_pf hP) [1, 3, 4] rfl) (va_recv hK hP (ci := 8) (q0 := 1) rfl rfl) rfl (Nat.le_of_ble_eq_true rfl) dX10_about_73 ⟨Nat.zero_le _, Nat.zero_le _⟩) (fun r hr => ?_)
        subst hr
        refine vp_callSi (va_Run.run (va_runU (As := [.int (nI (fond (pn * 3 + boys pn)))]) (rest := []) ⟨hx, hb, hml, hown, hts⟩ (c_X2_feels l D cI cB cP a (wt pn) (fond (pn * 3 + boys pn)) (hfo _)) (va_cwO 1 hts gX10_about_X2_feels_u143X2 rfl rfl rfl (x := ⟨"BeatenInstead$Prince", "feels", "(I)I"⟩) (List.mem_of_getElem? (i := 55) rfl) (by decide +kernel) ⟨Nat.le_of_ble_eq_true rfl, Nat.le_of_ble_eq_true rfl⟩) ⟨zR_blind, (va_recv hK (z_p1 (z_pp hP) hmem) (ci := 2) (q0 := 0) rfl rfl), zR_pre (va_P.sub (ws' := [(a, .inr (2, [.int (nI (wt pn))]))]) (z_p1 (z_pp hP) hmem) [0] rfl) hK hN⟩ rfl rfl hl.1 rfl (lv_room (Nat.le_of_ble_eq_true rfl)) dX10_about_76 ⟨Nat.zero_le _, Nat.zero_le _⟩)) (fun r hr => ?_)
        subst hr
        exact hret _ _ _ dX10_about_79 (by rw [zAbout_3 (z_pn hp hnp), nI_clamp (by omega), hk0]; simp [zFeels])
    by_cases w_4 : w = 4
    · subst w_4
      refine lv_tableIn (tgt := 80) (off := 66) hx hb dX10_about_14 (by decide +kernel) (by decide +kernel) (by decide +kernel) (by decide) ?_
      refine lv_aload_n hx hb dX10_about_80 rfl (lv_at hl 1 rfl) ?_
      refine va_get (D := D) (ci := 10) (v := .ref x_nw) (C := RX10) (T := TX10) (N := 11) hx hb hts zi_X10_about_X10 hown hK hP 0 rfl rfl 3 (by decide) (hts (.fieldLink RX10 32 "BeatenInstead" "now" "LBeatenInstead$Standing;") (List.mem_of_getElem? (i := 2) rfl)) (fun _ h9 => h9) rfl dX10_about_81 ?_
      refine lv_iload_n hx hb dX10_about_84 rfl (lv_at hl 2 rfl) ?_
      refine vp_callSi (z_runVN (b := x_nw) (As := [.int (nI pn)]) (rest := []) hx hb hml hown hts hK hN hl.1 (c_X8_learntBy l D cI cB cP x_nw np a1 a2 a3 a4 nh a5 a6 a7 learnt pn (by omega)) gX10_about_X8_learntBy_n146 rfl 45 rfl (List.mem_of_getElem? (i := 34) rfl) (List.mem_of_getElem? (i := 71) rfl) (List.mem_of_getElem? (i := 72) rfl) zd_X8_learntBy rfl (Nat.le_of_ble_eq_true rfl) (Nat.le_of_ble_eq_true rfl) (va_P.sub (ws' := [(x_nw, .inr (8, [.int (nI np), .ref a1, .ref a2, .ref a3, .ref a4, .int (nI nh), .ref a5, .ref a6, .ref a7])), (a3, .inl (cI, 3, .inl (fun q_ => nI (learnt q_))))]) (z_pf hP) [1, 5] rfl) (va_recv hK hP (ci := 8) (q0 := 1) rfl rfl) rfl (Nat.le_of_ble_eq_true rfl) dX10_about_85 ⟨Nat.zero_le _, Nat.zero_le _⟩) (fun r hr => ?_)
      subst hr
      exact hret _ _ _ dX10_about_88 (by rw [zAbout, if_neg (z_pn hp hnp), nI_clamp (by omega), if_neg (by decide), if_neg (by decide), if_neg (by decide), if_neg (by decide), if_pos rfl])
    refine lv_tableOut (tgt := 89) hx hb dX10_about_14 (by have e0 := z_ne (k := 0) w_0 (by omega); have e1 := z_ne (k := 1) w_1 (by omega); have e2 := z_ne (k := 2) w_2 (by omega); have e3 := z_ne (k := 3) w_3 (by omega); have e4 := z_ne (k := 4) w_4 (by omega); omega) (by decide) ?_
    refine lv_iload_n hx hb dX10_about_89 rfl (lv_at hl 3 rfl) ?_
    refine lv_bipush (v := (10)) hx hb dX10_about_90 (by decide) ?_
    refine lv_isub hx hb dX10_about_92 ?_
    refine vp_callSi (z_runS (As := [.int (w - 10)]) (rest := []) hx hb hml hown hts hK hN hl.1 (c_X10_isBoy l D cI cB cP (w - 10)) gX10_about_X10_isBoy rfl zd_X10_isBoy rfl (Nat.le_of_ble_eq_true rfl) (Nat.le_of_ble_eq_true rfl) z_p0 rfl (Nat.le_of_ble_eq_true rfl) dX10_about_93 ⟨Nat.zero_le _, Nat.zero_le _⟩) (fun r hr => ?_)
    rcases hr with ⟨rfl, c_1⟩ | ⟨rfl, c_1⟩
    · skip
      refine lv_if_eq (tgt := 114) hx hb dX10_about_96 (by decide) (fun c => absurd c (by decide)) (fun _ => ?_)
      obtain ⟨b_, hb_, ew⟩ := z_natlt c_1.1 (n := 3) c_1.2 (by omega)
      refine lv_aload_n hx hb dX10_about_99 rfl (lv_at hl 1 rfl) ?_
      refine va_get (D := D) (ci := 10) (v := .ref x_nw) (C := RX10) (T := TX10) (N := 11) hx hb hts zi_X10_about_X10 hown hK hP 0 rfl rfl 3 (by decide) (hts (.fieldLink RX10 32 "BeatenInstead" "now" "LBeatenInstead$Standing;") (List.mem_of_getElem? (i := 2) rfl)) (fun _ h9 => h9) rfl dX10_about_100 ?_
      refine lv_iload_n hx hb dX10_about_103 rfl (lv_at hl 2 rfl) ?_
      refine lv_iload_n hx hb dX10_about_104 rfl (lv_at hl 3 rfl) ?_
      refine lv_bipush (v := (10)) hx hb dX10_about_105 (by decide) ?_
      refine lv_isub hx hb dX10_about_107 ?_
      refine z_top (show (w - 10) = nI b_ from ew) ?_
      refine vp_callSi (z_runVN (b := x_nw) (As := [.int (nI pn), .int (nI b_)]) (rest := []) hx hb hml hown hts hK hN hl.1 (c_X8_fondOf l D cI cB cP x_nw np a1 a2 a3 a4 nh a5 a6 a7 fond pn b_ (by omega) (by first | exact hby _ | omega)) gX10_about_X8_fondOf_n149 rfl 46 rfl (List.mem_of_getElem? (i := 34) rfl) (List.mem_of_getElem? (i := 45) rfl) (List.mem_of_getElem? (i := 46) rfl) zd_X8_fondOf rfl (Nat.le_of_ble_eq_true rfl) (Nat.le_of_ble_eq_true rfl) (va_P.sub (ws' := [(x_nw, .inr (8, [.int (nI np), .ref a1, .ref a2, .ref a3, .ref a4, .int (nI nh), .ref a5, .ref a6, .ref a7])), (a1, .inl (cI, 9, .inl (fun q_ => nI (fond q_))))]) (z_pf hP) [1, 3] rfl) (va_recv hK hP (ci := 8) (q0 := 1) rfl rfl) rfl (Nat.le_of_ble_eq_true rfl) dX10_about_108 ⟨Nat.zero_le _, Nat.zero_le _⟩) (fun r hr => ?_)
      subst hr
      refine lv_goto (tgt := 116) hx hb dX10_about_111 (by decide) ?_
      exact hret _ _ _ dX10_about_116 (by rw [zAbout, if_neg (z_pn hp hnp), nI_clamp (by omega), if_neg w_0, if_neg w_1, if_neg w_2, if_neg w_3, if_neg w_4, if_pos (z_w10.mp c_1), ew, nI_clamp (by omega)])
    · skip
      refine lv_if_eq (tgt := 114) hx hb dX10_about_96 (by decide) (fun _ => ?_) (fun c => absurd c (by decide))
      refine lv_bipush (v := (-102)) hx hb dX10_about_114 (by decide) ?_
      exact hret _ _ _ dX10_about_116 (by rw [zAbout, if_neg (z_pn hp hnp), if_neg w_0, if_neg w_1, if_neg w_2, if_neg w_3, if_neg w_4, if_neg (fun h => c_1 (z_w10.mpr h))])

abbrev rm_X10_as : Room := { frames := 1, cells := 0, slots := 0, locals := 22 }
set_option maxHeartbeats 4000000 in
set_option maxRecDepth 100000 in
theorem c_X10_as (l : Launch) (D : va_G) (cI cB cP : ClassId) (x : Nat) (x_pg : Nat) (x_tx : Nat) (x_pr : Nat) (x_nw : Nat) (x_kp : Nat) (x_tr : Nat) (x_or : Nat) (x_bl : Nat) (hI : Nat) (tR : Nat) (tO : Nat) (np : Nat) (a1 : Nat) (a2 : Nat) (a3 : Nat) (a4 : Nat) (nh : Nat) (a5 : Nat) (a6 : Nat) (a7 : Nat) (pool : va_W) (pr : Nat → Option Nat) (kd : Nat → Nat) (wt : Nat → Nat) (num : Int32) (k_ : Int32) (hnp : np ≤ 3) (hpool : zPool pool pr kd wt np) (hkd : ∀ i, kd i < 5) (hwt : ∀ i, wt i ≤ 9)  : zPi l D cI cB cP yX10_as wsX10_as rm_X10_as [.ref x, .int num, .int k_] ([(x, .inr (10, [.ref x_pg, .ref x_tx, .ref x_pr, .ref x_nw, .ref x_kp, .ref x_tr, .ref x_or, .ref x_bl, .int (nI hI), .int (nI tR), .int (nI tO)])), (x_nw, .inr (8, [.int (nI np), .ref a1, .ref a2, .ref a3, .ref a4, .int (nI nh), .ref a5, .ref a6, .ref a7])), (x_pr, .inl (cP, 3, .inr (.inr (.inr (.inr (pr))))))] ++ pool) (fun r => r = zAs np kd num k_) := by
  refine zPi_of (cc := cX10_as) (maxL := 4) (by decide) rfl (Nat.le_of_ble_eq_true rfl) ?_
  intro p e s m args below meth c ls Q hx hb hml hts hown hP hK hN hl hret
  have hown : s.vm.findClass RX10 = some m.cls := hown
  have hl : lv_has ls 4 [(0, .ref x), (1, .int num), (2, .int k_)] := hl
  refine lv_aload_n hx hb dX10_as_0 rfl (lv_at hl 0 rfl) ?_
  refine lv_iload_n hx hb dX10_as_1 rfl (lv_at hl 1 rfl) ?_
  refine va_csq (z_runV (b := x) (As := [.int num]) (rest := []) hx hb hml hown hts hK hN hl.1 (c_X10_princeOf l D cI cB cP x x_pg x_tx x_pr x_nw x_kp x_tr x_or x_bl hI tR tO np a1 a2 a3 a4 nh a5 a6 a7 pr num (by first | assumption | omega)) gX10_as_X10_princeOf rfl zd_X10_princeOf rfl (Nat.le_of_ble_eq_true rfl) (Nat.le_of_ble_eq_true rfl) (va_P.sub (ws' := [(x, .inr (10, [.ref x_pg, .ref x_tx, .ref x_pr, .ref x_nw, .ref x_kp, .ref x_tr, .ref x_or, .ref x_bl, .int (nI hI), .int (nI tR), .int (nI tO)])), (x_nw, .inr (8, [.int (nI np), .ref a1, .ref a2, .ref a3, .ref a4, .int (nI nh), .ref a5, .ref a6, .ref a7])), (x_pr, .inl (cP, 3, .inr (.inr (.inr (.inr (pr))))))]) (z_pf hP) [0, 1, 2] rfl) (va_recv hK hP (ci := 10) (q0 := 0) rfl rfl) rfl (Nat.le_of_ble_eq_true rfl) dX10_as_2 ⟨Nat.zero_le _, Nat.zero_le _⟩) (fun r hr => ?_)
  rcases z_po hr hpool hnp with ⟨rfl, hpo⟩ | ⟨pn, a, hp, epo, rfl, hmem⟩
  · skip
    refine lv_astore_nN (lv' := [(3, .null), (0, .ref x), (1, .int num), (2, .int k_)]) hx hb dX10_as_5 rfl hl (by decide) rfl (fun ls hl => ?_)
    refine lv_aload_nN hx hb dX10_as_6 rfl (lv_at hl 0 rfl) ?_
    refine lv_ifnonnullN hx hb dX10_as_7 ?_
    refine lv_bipush (v := (-101)) hx hb dX10_as_10 (by decide) ?_
    exact hret _ _ _ dX10_as_12 (by rw [zAs, if_pos hpo])
  · subst epo
    obtain ⟨k0, hk0⟩ : ∃ k0, kd pn = k0 := ⟨_, rfl⟩
    have hk5 : k0 < 5 := by rw [← hk0]; exact hkd pn
    rw [hk0] at hmem
    refine lv_astore_n (lv' := [(3, .ref a), (0, .ref x), (1, .int (nI pn)), (2, .int k_)]) hx hb dX10_as_5 rfl hl (by decide) rfl (fun ls hl => ?_)
    refine lv_aload_n hx hb dX10_as_6 rfl (lv_at hl 0 rfl) ?_
    refine lv_ifnonnull (tgt := 13) hx hb dX10_as_7 (by decide) ?_
    refine lv_iload_n hx hb dX10_as_13 rfl (lv_at hl 3 rfl) ?_
    refine vp_callSi (z_runS (As := [.int k_]) (rest := []) hx hb hml hown hts hK hN hl.1 (c_X10_isKind l D cI cB cP k_) gX10_as_X10_isKind rfl zd_X10_isKind rfl (Nat.le_of_ble_eq_true rfl) (Nat.le_of_ble_eq_true rfl) z_p0 rfl (Nat.le_of_ble_eq_true rfl) dX10_as_14 ⟨Nat.zero_le _, Nat.zero_le _⟩) (fun r hr => ?_)
    rcases hr with ⟨rfl, c_1⟩ | ⟨rfl, c_1⟩
    · skip
      refine lv_if_ne (tgt := 23) hx hb dX10_as_17 (by decide) (fun _ => ?_) (fun c => absurd c (by decide))
      obtain ⟨k, hk_, rfl⟩ := z_natle c_1.1 (n := 4) (Int32.not_lt.mpr c_1.2) (by omega)
      rcases z_k5 hk5 with rfl | rfl | rfl | rfl | rfl
      · skip
        refine lv_aload_n hx hb dX10_as_23 rfl (lv_at hl 0 rfl) ?_
        refine lv_iload_n hx hb dX10_as_24 rfl (lv_at hl 3 rfl) ?_
        refine vp_callSi (z_runV (b := a) (As := [.int (nI k)]) (rest := []) hx hb hml hown hts hK hN hl.1 (c_X6_isOf l D cI cB cP a 0 (wt pn) k (by first | exact hkd _ | omega) (by omega)) gX10_as_X6_isOf rfl zd_X6_isOf rfl (Nat.le_of_ble_eq_true rfl) (Nat.le_of_ble_eq_true rfl) (va_P.sub (ws' := [(a, .inr (zKi 0, [.int (nI (wt pn))]))]) (z_p1 (z_pp hP) hmem) [0] rfl) (va_recv hK (z_p1 (z_pp hP) hmem) (ci := 6) (q0 := 0) rfl rfl) rfl (Nat.le_of_ble_eq_true rfl) dX10_as_25 ⟨Nat.zero_le _, Nat.zero_le _⟩) (fun r hr => ?_)
        rcases hr with ⟨rfl, c_2⟩ | ⟨rfl, c_2⟩
        · skip
          refine lv_if_eq (tgt := 35) hx hb dX10_as_28 (by decide) (fun c => absurd c (by decide)) (fun _ => ?_)
          refine lv_iload_n hx hb dX10_as_31 rfl (lv_at hl 2 rfl) ?_
          refine lv_goto (tgt := 36) hx hb dX10_as_32 (by decide) ?_
          exact hret _ _ _ dX10_as_36 (by rw [zAs, if_neg (z_pn hp hnp), if_pos c_1, nI_clamp (by omega), nI_clamp (by omega), hk0, if_pos c_2])
        · skip
          refine lv_if_eq (tgt := 35) hx hb dX10_as_28 (by decide) (fun _ => ?_) (fun c => absurd c (by decide))
          refine lv_iconst (v := (-1)) hx hb dX10_as_35 (by decide) ?_
          exact hret _ _ _ dX10_as_36 (by rw [zAs, if_neg (z_pn hp hnp), if_pos c_1, nI_clamp (by omega), nI_clamp (by omega), hk0, if_neg c_2])
      · skip
        refine lv_aload_n hx hb dX10_as_23 rfl (lv_at hl 0 rfl) ?_
        refine lv_iload_n hx hb dX10_as_24 rfl (lv_at hl 3 rfl) ?_
        refine vp_callSi (va_Run.run (va_runU (As := [.int (nI k)]) (rest := []) ⟨hx, hb, hml, hown, hts⟩ (c_X6_isOf l D cI cB cP a 1 (wt pn) k (by first | exact hkd _ | omega) (by omega)) (va_cwU 1 hts gX10_as_X6_isOf_u153X7 rfl rfl rfl (x := ⟨"BeatenInstead$Prince", "isOf", "(I)Z"⟩) rfl (by decide +kernel) ⟨Nat.le_of_ble_eq_true rfl, Nat.le_of_ble_eq_true rfl⟩) ⟨zR_blind, (va_recv hK (z_p1 (z_pp hP) hmem) (ci := 7) (q0 := 0) rfl rfl), zR_pre (va_P.sub (ws' := [(a, .inr (zKi 1, [.int (nI (wt pn))]))]) (z_p1 (z_pp hP) hmem) [0] rfl) hK hN⟩ rfl rfl hl.1 rfl (lv_room (Nat.le_of_ble_eq_true rfl)) dX10_as_25 ⟨Nat.zero_le _, Nat.zero_le _⟩)) (fun r hr => ?_)
        rcases hr with ⟨rfl, c_2⟩ | ⟨rfl, c_2⟩
        · skip
          refine lv_if_eq (tgt := 35) hx hb dX10_as_28 (by decide) (fun c => absurd c (by decide)) (fun _ => ?_)
          refine lv_iload_n hx hb dX10_as_31 rfl (lv_at hl 2 rfl) ?_
          refine lv_goto (tgt := 36) hx hb dX10_as_32 (by decide) ?_
          exact hret _ _ _ dX10_as_36 (by rw [zAs, if_neg (z_pn hp hnp), if_pos c_1, nI_clamp (by omega), nI_clamp (by omega), hk0, if_pos c_2])
        · skip
          refine lv_if_eq (tgt := 35) hx hb dX10_as_28 (by decide) (fun _ => ?_) (fun c => absurd c (by decide))
          refine lv_iconst (v := (-1)) hx hb dX10_as_35 (by decide) ?_
          exact hret _ _ _ dX10_as_36 (by rw [zAs, if_neg (z_pn hp hnp), if_pos c_1, nI_clamp (by omega), nI_clamp (by omega), hk0, if_neg c_2])
      · skip
        refine lv_aload_n hx hb dX10_as_23 rfl (lv_at hl 0 rfl) ?_
        refine lv_iload_n hx hb dX10_as_24 rfl (lv_at hl 3 rfl) ?_
        refine vp_callSi (va_Run.run (va_runU (As := [.int (nI k)]) (rest := []) ⟨hx, hb, hml, hown, hts⟩ (c_X6_isOf l D cI cB cP a 2 (wt pn) k (by first | exact hkd _ | omega) (by omega)) (va_cwU 1 hts gX10_as_X6_isOf_u153X1 rfl rfl rfl (x := ⟨"BeatenInstead$Prince", "isOf", "(I)Z"⟩) rfl (by decide +kernel) ⟨Nat.le_of_ble_eq_true rfl, Nat.le_of_ble_eq_true rfl⟩) ⟨zR_blind, (va_recv hK (z_p1 (z_pp hP) hmem) (ci := 1) (q0 := 0) rfl rfl), zR_pre (va_P.sub (ws' := [(a, .inr (zKi 2, [.int (nI (wt pn))]))]) (z_p1 (z_pp hP) hmem) [0] rfl) hK hN⟩ rfl rfl hl.1 rfl (lv_room (Nat.le_of_ble_eq_true rfl)) dX10_as_25 ⟨Nat.zero_le _, Nat.zero_le _⟩)) (fun r hr => ?_)
        rcases hr with ⟨rfl, c_2⟩ | ⟨rfl, c_2⟩
        · skip
          refine lv_if_eq (tgt := 35) hx hb dX10_as_28 (by decide) (fun c => absurd c (by decide)) (fun _ => ?_)
          refine lv_iload_n hx hb dX10_as_31 rfl (lv_at hl 2 rfl) ?_
          refine lv_goto (tgt := 36) hx hb dX10_as_32 (by decide) ?_
          exact hret _ _ _ dX10_as_36 (by rw [zAs, if_neg (z_pn hp hnp), if_pos c_1, nI_clamp (by omega), nI_clamp (by omega), hk0, if_pos c_2])
        · skip
          refine lv_if_eq (tgt := 35) hx hb dX10_as_28 (by decide) (fun _ => ?_) (fun c => absurd c (by decide))
          refine lv_iconst (v := (-1)) hx hb dX10_as_35 (by decide) ?_
          exact hret _ _ _ dX10_as_36 (by rw [zAs, if_neg (z_pn hp hnp), if_pos c_1, nI_clamp (by omega), nI_clamp (by omega), hk0, if_neg c_2])
      · skip
        refine lv_aload_n hx hb dX10_as_23 rfl (lv_at hl 0 rfl) ?_
        refine lv_iload_n hx hb dX10_as_24 rfl (lv_at hl 3 rfl) ?_
        refine vp_callSi (va_Run.run (va_runU (As := [.int (nI k)]) (rest := []) ⟨hx, hb, hml, hown, hts⟩ (c_X6_isOf l D cI cB cP a 3 (wt pn) k (by first | exact hkd _ | omega) (by omega)) (va_cwU 1 hts gX10_as_X6_isOf_u153X3 rfl rfl rfl (x := ⟨"BeatenInstead$Prince", "isOf", "(I)Z"⟩) rfl (by decide +kernel) ⟨Nat.le_of_ble_eq_true rfl, Nat.le_of_ble_eq_true rfl⟩) ⟨zR_blind, (va_recv hK (z_p1 (z_pp hP) hmem) (ci := 3) (q0 := 0) rfl rfl), zR_pre (va_P.sub (ws' := [(a, .inr (zKi 3, [.int (nI (wt pn))]))]) (z_p1 (z_pp hP) hmem) [0] rfl) hK hN⟩ rfl rfl hl.1 rfl (lv_room (Nat.le_of_ble_eq_true rfl)) dX10_as_25 ⟨Nat.zero_le _, Nat.zero_le _⟩)) (fun r hr => ?_)
        rcases hr with ⟨rfl, c_2⟩ | ⟨rfl, c_2⟩
        · skip
          refine lv_if_eq (tgt := 35) hx hb dX10_as_28 (by decide) (fun c => absurd c (by decide)) (fun _ => ?_)
          refine lv_iload_n hx hb dX10_as_31 rfl (lv_at hl 2 rfl) ?_
          refine lv_goto (tgt := 36) hx hb dX10_as_32 (by decide) ?_
          exact hret _ _ _ dX10_as_36 (by rw [zAs, if_neg (z_pn hp hnp), if_pos c_1, nI_clamp (by omega), nI_clamp (by omega), hk0, if_pos c_2])
        · skip
          refine lv_if_eq (tgt := 35) hx hb dX10_as_28 (by decide) (fun _ => ?_) (fun c => absurd c (by decide))
          refine lv_iconst (v := (-1)) hx hb dX10_as_35 (by decide) ?_
          exact hret _ _ _ dX10_as_36 (by rw [zAs, if_neg (z_pn hp hnp), if_pos c_1, nI_clamp (by omega), nI_clamp (by omega), hk0, if_neg c_2])
      · skip
        refine lv_aload_n hx hb dX10_as_23 rfl (lv_at hl 0 rfl) ?_
        refine lv_iload_n hx hb dX10_as_24 rfl (lv_at hl 3 rfl) ?_
        refine vp_callSi (va_Run.run (va_runU (As := [.int (nI k)]) (rest := []) ⟨hx, hb, hml, hown, hts⟩ (c_X6_isOf l D cI cB cP a 4 (wt pn) k (by first | exact hkd _ | omega) (by omega)) (va_cwU 1 hts gX10_as_X6_isOf_u153X2 rfl rfl rfl (x := ⟨"BeatenInstead$Prince", "isOf", "(I)Z"⟩) rfl (by decide +kernel) ⟨Nat.le_of_ble_eq_true rfl, Nat.le_of_ble_eq_true rfl⟩) ⟨zR_blind, (va_recv hK (z_p1 (z_pp hP) hmem) (ci := 2) (q0 := 0) rfl rfl), zR_pre (va_P.sub (ws' := [(a, .inr (zKi 4, [.int (nI (wt pn))]))]) (z_p1 (z_pp hP) hmem) [0] rfl) hK hN⟩ rfl rfl hl.1 rfl (lv_room (Nat.le_of_ble_eq_true rfl)) dX10_as_25 ⟨Nat.zero_le _, Nat.zero_le _⟩)) (fun r hr => ?_)
        rcases hr with ⟨rfl, c_2⟩ | ⟨rfl, c_2⟩
        · skip
          refine lv_if_eq (tgt := 35) hx hb dX10_as_28 (by decide) (fun c => absurd c (by decide)) (fun _ => ?_)
          refine lv_iload_n hx hb dX10_as_31 rfl (lv_at hl 2 rfl) ?_
          refine lv_goto (tgt := 36) hx hb dX10_as_32 (by decide) ?_
          exact hret _ _ _ dX10_as_36 (by rw [zAs, if_neg (z_pn hp hnp), if_pos c_1, nI_clamp (by omega), nI_clamp (by omega), hk0, if_pos c_2])
        · skip
          refine lv_if_eq (tgt := 35) hx hb dX10_as_28 (by decide) (fun _ => ?_) (fun c => absurd c (by decide))
          refine lv_iconst (v := (-1)) hx hb dX10_as_35 (by decide) ?_
          exact hret _ _ _ dX10_as_36 (by rw [zAs, if_neg (z_pn hp hnp), if_pos c_1, nI_clamp (by omega), nI_clamp (by omega), hk0, if_neg c_2])
    · skip
      refine lv_if_ne (tgt := 23) hx hb dX10_as_17 (by decide) (fun c => absurd c (by decide)) (fun _ => ?_)
      refine lv_bipush (v := (-102)) hx hb dX10_as_20 (by decide) ?_
      exact hret _ _ _ dX10_as_22 (by rw [zAs, if_neg (z_pn hp hnp), if_neg c_1])

theorem zi_X10_tenths_X10 : ∀ w ∈ wsX100, w ∈ wsX10_tenths := fun _ h => List.mem_cons_of_mem _ (List.mem_append_left _ (List.mem_append_left _ (List.mem_append_left _ (List.mem_append_left _ (List.mem_append_left _ (List.mem_append_left _ (List.mem_append_left _ (List.mem_append_right _ (h)))))))))
abbrev rm_X10_tenths : Room := { frames := 3, cells := 0, slots := 0, locals := 66 }
set_option maxHeartbeats 4000000 in
set_option maxRecDepth 100000 in
theorem c_X10_tenths (l : Launch) (D : va_G) (cI cB cP : ClassId) (x : Nat) (x_pg : Nat) (x_tx : Nat) (x_pr : Nat) (x_nw : Nat) (x_kp : Nat) (x_tr : Nat) (x_or : Nat) (x_bl : Nat) (hI : Nat) (tR : Nat) (tO : Nat) (np : Nat) (a1 : Nat) (a2 : Nat) (a3 : Nat) (a4 : Nat) (nh : Nat) (a5 : Nat) (a6 : Nat) (a7 : Nat) (t1 : Nat) (t2 : Nat) (lessons : Nat) (limit : Nat) (hard : Nat → Nat) (fond : Nat → Nat) (boys : Nat → Nat) (pool : va_W) (pr : Nat → Option Nat) (kd : Nat → Nat) (wt : Nat → Nat) (num : Int32) (l_ : Int32) (hnp : np ≤ 3) (hpool : zPool pool pr kd wt np) (hkd : ∀ i, kd i < 5) (hwt : ∀ i, wt i ≤ 9) (hfo : ∀ i, fond i ≤ 9) (hby : ∀ i, boys i < 3) (hls : lessons ≤ 5) (hha : ∀ i, hard i ≤ 9)  : zPi l D cI cB cP yX10_tenths wsX10_tenths rm_X10_tenths [.ref x, .int num, .int l_] ([(x, .inr (10, [.ref x_pg, .ref x_tx, .ref x_pr, .ref x_nw, .ref x_kp, .ref x_tr, .ref x_or, .ref x_bl, .int (nI hI), .int (nI tR), .int (nI tO)])), (x_nw, .inr (8, [.int (nI np), .ref a1, .ref a2, .ref a3, .ref a4, .int (nI nh), .ref a5, .ref a6, .ref a7])), (x_pr, .inl (cP, 3, .inr (.inr (.inr (.inr (pr)))))), (x_tx, .inr (9, [.ref t1, .ref t2, .int (nI lessons), .int (nI limit)])), (t1, .inl (cI, 5, .inl (fun q_ => nI (hard q_)))), (a1, .inl (cI, 9, .inl (fun q_ => nI (fond q_)))), (a2, .inl (cI, 3, .inl (fun q_ => nI (boys q_))))] ++ pool) (fun r => r = zTenths np lessons kd wt fond boys hard num l_) := by
  refine zPi_of (cc := cX10_tenths) (maxL := 4) (by decide) rfl (Nat.le_of_ble_eq_true rfl) ?_
  intro p e s m args below meth c ls Q hx hb hml hts hown hP hK hN hl hret
  have hown : s.vm.findClass RX10 = some m.cls := hown
  have hl : lv_has ls 4 [(0, .ref x), (1, .int num), (2, .int l_)] := hl
  refine lv_aload_n hx hb dX10_tenths_0 rfl (lv_at hl 0 rfl) ?_
  refine lv_iload_n hx hb dX10_tenths_1 rfl (lv_at hl 1 rfl) ?_
  refine va_csq (z_runV (b := x) (As := [.int num]) (rest := []) hx hb hml hown hts hK hN hl.1 (c_X10_princeOf l D cI cB cP x x_pg x_tx x_pr x_nw x_kp x_tr x_or x_bl hI tR tO np a1 a2 a3 a4 nh a5 a6 a7 pr num (by first | assumption | omega)) gX10_tenths_X10_princeOf rfl zd_X10_princeOf rfl (Nat.le_of_ble_eq_true rfl) (Nat.le_of_ble_eq_true rfl) (va_P.sub (ws' := [(x, .inr (10, [.ref x_pg, .ref x_tx, .ref x_pr, .ref x_nw, .ref x_kp, .ref x_tr, .ref x_or, .ref x_bl, .int (nI hI), .int (nI tR), .int (nI tO)])), (x_nw, .inr (8, [.int (nI np), .ref a1, .ref a2, .ref a3, .ref a4, .int (nI nh), .ref a5, .ref a6, .ref a7])), (x_pr, .inl (cP, 3, .inr (.inr (.inr (.inr (pr))))))]) (z_pf hP) [0, 1, 2] rfl) (va_recv hK hP (ci := 10) (q0 := 0) rfl rfl) rfl (Nat.le_of_ble_eq_true rfl) dX10_tenths_2 ⟨Nat.zero_le _, Nat.zero_le _⟩) (fun r hr => ?_)
  rcases z_po hr hpool hnp with ⟨rfl, hpo⟩ | ⟨pn, a, hp, epo, rfl, hmem⟩
  · skip
    refine lv_astore_nN (lv' := [(3, .null), (0, .ref x), (1, .int num), (2, .int l_)]) hx hb dX10_tenths_5 rfl hl (by decide) rfl (fun ls hl => ?_)
    refine lv_aload_nN hx hb dX10_tenths_6 rfl (lv_at hl 0 rfl) ?_
    refine lv_ifnullN (tgt := 21) hx hb dX10_tenths_7 (by decide) ?_
    refine lv_bipush (v := (-101)) hx hb dX10_tenths_21 (by decide) ?_
    exact hret _ _ _ dX10_tenths_23 (by rw [zTenths, if_pos (Or.inl hpo)])
  · subst epo
    refine lv_astore_n (lv' := [(3, .ref a), (0, .ref x), (1, .int (nI pn)), (2, .int l_)]) hx hb dX10_tenths_5 rfl hl (by decide) rfl (fun ls hl => ?_)
    refine lv_aload_n hx hb dX10_tenths_6 rfl (lv_at hl 0 rfl) ?_
    refine lv_ifnull hx hb dX10_tenths_7 ?_
    refine lv_aload_n hx hb dX10_tenths_10 rfl (lv_at hl 1 rfl) ?_
    refine va_get (D := D) (ci := 10) (v := .ref x_tx) (C := RX10) (T := TX10) (N := 11) hx hb hts zi_X10_tenths_X10 hown hK hP 0 rfl rfl 1 (by decide) (hts (.fieldLink RX10 19 "BeatenInstead" "text" "LBeatenInstead$Text;") (List.mem_of_getElem? (i := 1) rfl)) (fun _ h9 => h9) rfl dX10_tenths_11 ?_
    refine lv_iload_n hx hb dX10_tenths_14 rfl (lv_at hl 3 rfl) ?_
    refine vp_callSi (z_runVN (b := x_tx) (As := [.int l_]) (rest := []) hx hb hml hown hts hK hN hl.1 (c_X9_has l D cI cB cP x_tx t1 t2 lessons limit l_) gX10_tenths_X9_has_n92 rfl 32 rfl (List.mem_of_getElem? (i := 10) rfl) (List.mem_of_getElem? (i := 9) rfl) (List.mem_of_getElem? (i := 11) rfl) zd_X9_has rfl (Nat.le_of_ble_eq_true rfl) (Nat.le_of_ble_eq_true rfl) (va_P.sub (ws' := [(x_tx, .inr (9, [.ref t1, .ref t2, .int (nI lessons), .int (nI limit)]))]) (z_pf hP) [3] rfl) (va_recv hK hP (ci := 9) (q0 := 3) rfl rfl) rfl (Nat.le_of_ble_eq_true rfl) dX10_tenths_15 ⟨Nat.zero_le _, Nat.zero_le _⟩) (fun r hr => ?_)
    rcases hr with ⟨rfl, c_1⟩ | ⟨rfl, c_1⟩
    · skip
      refine lv_if_ne (tgt := 24) hx hb dX10_tenths_18 (by decide) (fun _ => ?_) (fun c => absurd c (by decide))
      obtain ⟨i, hi_, rfl⟩ := z_natlt c_1.1 c_1.2 (by omega)
      refine lv_aload_n hx hb dX10_tenths_24 rfl (lv_at hl 1 rfl) ?_
      refine va_get (D := D) (ci := 10) (v := .ref x_tx) (C := RX10) (T := TX10) (N := 11) hx hb hts zi_X10_tenths_X10 hown hK hP 0 rfl rfl 1 (by decide) (hts (.fieldLink RX10 19 "BeatenInstead" "text" "LBeatenInstead$Text;") (List.mem_of_getElem? (i := 1) rfl)) (fun _ h9 => h9) rfl dX10_tenths_25 ?_
      refine lv_aload_n hx hb dX10_tenths_28 rfl (lv_at hl 0 rfl) ?_
      refine lv_aload_n hx hb dX10_tenths_29 rfl (lv_at hl 1 rfl) ?_
      refine va_get (D := D) (ci := 10) (v := .ref x_nw) (C := RX10) (T := TX10) (N := 11) hx hb hts zi_X10_tenths_X10 hown hK hP 0 rfl rfl 3 (by decide) (hts (.fieldLink RX10 32 "BeatenInstead" "now" "LBeatenInstead$Standing;") (List.mem_of_getElem? (i := 2) rfl)) (fun _ h9 => h9) rfl dX10_tenths_30 ?_
      refine lv_iload_n hx hb dX10_tenths_33 rfl (lv_at hl 2 rfl) ?_
      refine vp_callSi (z_runVN (b := x_nw) (As := [.int (nI pn)]) (rest := [.ref a, .ref x_tx]) hx hb hml hown hts hK hN hl.1 (c_X8_fondOfHisBoy l D cI cB cP x_nw np a1 a2 a3 a4 nh a5 a6 a7 fond boys pn (by omega) (hby _)) gX10_tenths_X8_fondOfHisBoy_n140 rfl 44 rfl (List.mem_of_getElem? (i := 15) rfl) (List.mem_of_getElem? (i := 14) rfl) (List.mem_of_getElem? (i := 16) rfl) zd_X8_fondOfHisBoy rfl (Nat.le_of_ble_eq_true rfl) (Nat.le_of_ble_eq_true rfl) (va_P.sub (ws' := [(x_nw, .inr (8, [.int (nI np), .ref a1, .ref a2, .ref a3, .ref a4, .int (nI nh), .ref a5, .ref a6, .ref a7])), (a1, .inl (cI, 9, .inl (fun q_ => nI (fond q_)))), (a2, .inl (cI, 3, .inl (fun q_ => nI (boys q_))))]) (z_pf hP) [1, 5, 6] rfl) (va_recv hK hP (ci := 8) (q0 := 1) rfl rfl) rfl (Nat.le_of_ble_eq_true rfl) dX10_tenths_34 ⟨Nat.zero_le _, Nat.zero_le _⟩) (fun r hr => ?_)
      subst hr
      refine lv_iload_n hx hb dX10_tenths_37 rfl (lv_at hl 3 rfl) ?_
      refine vp_callSi (z_runVN (b := x_tx) (As := [.ref a, .int (nI (fond (pn * 3 + boys pn))), .int (nI i)]) (rest := []) hx hb hml hown hts hK hN hl.1 (c_X9_tenthsFor l D cI cB cP x_tx t1 t2 lessons limit hard a (kd pn) (wt pn) (fond (pn * 3 + boys pn)) i (by omega) (by first | exact hkd _ | omega) (hwt _) (hfo _) (hha _)) gX10_tenths_X9_tenthsFor_n164 rfl 49 rfl (List.mem_of_getElem? (i := 10) rfl) (List.mem_of_getElem? (i := 30) rfl) (List.mem_of_getElem? (i := 31) rfl) zd_X9_tenthsFor rfl (Nat.le_of_ble_eq_true rfl) (Nat.le_of_ble_eq_true rfl) (va_P.sub (ws' := [(x_tx, .inr (9, [.ref t1, .ref t2, .int (nI lessons), .int (nI limit)])), (t1, .inl (cI, 5, .inl (fun q_ => nI (hard q_)))), (a, .inr (zKi (kd pn), [.int (nI (wt pn))]))]) (va_P.app (z_pf hP) (z_p1 (z_pp hP) hmem)) [3, 4, 7] rfl) (va_recv hK hP (ci := 9) (q0 := 3) rfl rfl) rfl (Nat.le_of_ble_eq_true rfl) dX10_tenths_38 ⟨Nat.zero_le _, Nat.zero_le _⟩) (fun r hr => ?_)
      subst hr
      exact hret _ _ _ dX10_tenths_41 (by rw [zTenths, if_neg (fun h => h.elim (z_pn hp hnp) (z_l5 hi_ hls)), nI_clamp (by omega), nI_clamp (by omega)])
    · skip
      refine lv_if_ne (tgt := 24) hx hb dX10_tenths_18 (by decide) (fun c => absurd c (by decide)) (fun _ => ?_)
      refine lv_bipush (v := (-101)) hx hb dX10_tenths_21 (by decide) ?_
      exact hret _ _ _ dX10_tenths_23 (by rw [zTenths, if_pos (Or.inr (by by_cases h : l_ < 0; exact Or.inl h; exact Or.inr (fun h2 => c_1 ⟨h, h2⟩)))])
