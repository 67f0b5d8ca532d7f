theorem z_w5 {w : Int32} (h : ¬ w < 0 ∧ ¬ 4 < w) : w = 0 ∨ w = 1 ∨ w = 2 ∨ w = 3 ∨ w = 4 ∨ (¬ w < 10 ∧ w < 13) := by
  obtain ⟨k, hk, rfl⟩ := z_natle (n := 4) h.1 h.2 (by omega)
  exact (by decide +kernel : ∀ k, k < 5 → nI k = 0 ∨ nI k = 1 ∨ nI k = 2 ∨ nI k = 3 ∨ nI k = 4 ∨ (¬ nI k < 10 ∧ nI k < 13)) k (by omega)
theorem z_w12 {w : Int32} : (¬ w < 10 ∧ ¬ 12 < w) ↔ (¬ w < 10 ∧ w < 13) := by
  have e3 : (12 : Int32).toInt = 12 := rfl
  have e4 : (13 : Int32).toInt = 13 := rfl
  rw [Int32.lt_iff_toInt_lt, Int32.lt_iff_toInt_lt, Int32.lt_iff_toInt_lt, e3, e4]; omega
theorem zAbout_x {np : Nat} {kd wt fond boys learnt : Nat → Nat} {n w : Int32} (h : ¬ (n < 0 ∨ ¬ n < nI np)) (h1 : ¬ (¬ w < 0 ∧ ¬ 4 < w)) (h2 : ¬ (¬ w < 10 ∧ ¬ 12 < w)) : zAbout np kd wt fond boys learnt n w = -102 := by
  rw [zAbout, if_neg h, if_neg (fun e => h1 (by subst e; decide)), if_neg (fun e => h1 (by subst e; decide)), if_neg (fun e => h1 (by subst e; decide)), if_neg (fun e => h1 (by subst e; decide)), if_neg (fun e => h1 (by subst e; decide)), if_neg (fun e => h2 (z_w12.mpr e))]
def zCountM (lessons limit np : Nat) (stripes : Nat → Int32) (learnt : Nat → Nat) (nh size : Nat) (tR tO : Int32) (w : Int32) : Int32 :=
  if w = 0 then nI lessons else if w = 1 then nI limit else if w = 2 then nI np else if w = 3 then zSum stripes 3 else if w = 4 then nI (zPops learnt np) else if w = 5 then nI nh else if w = 6 then nI size else if w = 7 then tR else if w = 8 then tO else -102
theorem zi_X11_princeNow_X11 : ∀ w ∈ wsX110, w ∈ wsX11_princeNow := fun _ h => List.mem_cons_of_mem _ (List.mem_append_right _ (h))
abbrev rm_X11_princeNow : Room := { frames := 2, cells := 0, slots := 0, locals := 43 }
set_option maxHeartbeats 4000000 in
set_option maxRecDepth 100000 in
theorem c_X11_princeNow (l : Launch) (D : va_G) (cI cB cP : ClassId) (mo : Nat) (m_hard : Nat) (m_blows : Nat) (m_stripes : Nat) (m_kd : Nat) (m_wt : Nat) (m_boys : Nat) (m_learnt : Nat) (m_fond : Nat) (m_qp : Nat) (m_ql : Nat) (m_qr : Nat) (m_codes : Nat) (m_left : Nat) (m_row : Nat) (m_sv : Nat) (m_k_fond : Nat) (m_k_stripes : Nat) (m_k_learnt : Nat) (m_k_boys : Nat) (m_k_qp : Nat) (m_k_ql : Nat) (m_k_qr : Nat) (wI : Int32) (nM : Int32) (sS : Int32) (sF : Int32) (lM : Int32) (sN : Int64) (iK : Int32) (kS : Int32) (kP : Int32) (kH : Int32) (hh : Int64) (sch : Int32) (asks : Int32) (lessons : Nat) (limit : Nat) (np : Nat) (nh : Nat) (size : Nat) (kd : Nat → Nat) (wt : Nat → Nat) (boys : Nat → Nat) (learnt : Nat → Nat) (fond : Nat → Nat) (p_ : Nat) (w : Int32) (hp_ : p_ < np) (hnp : np ≤ 3) (hkd : ∀ i, kd i < 5) (hby : ∀ i, boys i < 3) (hfo : ∀ i, fond i ≤ 9) (hle : ∀ i, learnt i < 32) (hw : w = 0 ∨ w = 1 ∨ w = 2 ∨ w = 3 ∨ w = 4 ∨ (¬ w < 10 ∧ w < 13))  : zPi l D cI cB cP yX11_princeNow wsX11_princeNow rm_X11_princeNow [.ref mo, .int (nI p_), .int w] ([(mo, .inr (11, [.int sch, .int (nI lessons), .int (nI limit), .ref m_hard, .ref m_blows, .ref m_stripes, .int (nI np), .ref m_kd, .ref m_wt, .ref m_boys, .ref m_learnt, .ref m_fond, .int (nI nh), .ref m_qp, .ref m_ql, .ref m_qr, .int asks, .int (nI size), .ref m_codes, .int wI, .int nM, .int sS, .int sF, .ref m_left, .int lM, .ref m_row, .long sN, .ref m_sv, .int iK, .int kS, .int kP, .int kH, .ref m_k_fond, .ref m_k_stripes, .ref m_k_learnt, .ref m_k_boys, .ref m_k_qp, .ref m_k_ql, .ref m_k_qr, .long hh])), (m_kd, .inl (cI, 3, .inl (fun q_ => nI (kd q_)))), (m_wt, .inl (cI, 3, .inl (fun q_ => nI (wt q_)))), (m_boys, .inl (cI, 3, .inl (fun q_ => nI (boys q_)))), (m_learnt, .inl (cI, 3, .inl (fun q_ => nI (learnt q_)))), (m_fond, .inl (cI, 9, .inl (fun q_ => nI (fond q_))))]) (fun r => r = zAbout np kd wt fond boys learnt (nI p_) w) := by
  refine zPi_of (cc := cX11_princeNow) (maxL := 3) (by decide) rfl (Nat.le_of_ble_eq_true rfl) ?_
  intro p e s m args below meth c ls Q hx hb hml hts hown hP hK hN hl hret
  have hown : s.vm.findClass RX11 = some m.cls := hown
  have hl : lv_has ls 3 [(0, .ref mo), (1, .int (nI p_)), (2, .int w)] := hl
  refine lv_iload_n hx hb dX11_princeNow_0 rfl (lv_at hl 2 rfl) ?_
  by_cases w_0 : w = 0
  · subst w_0
    refine lv_tableIn (tgt := 36) (off := 35) hx hb dX11_princeNow_1 (by decide +kernel) (by decide +kernel) (by decide +kernel) (by decide) ?_
    refine lv_aload_n hx hb dX11_princeNow_36 rfl (lv_at hl 0 rfl) ?_
    refine va_get (D := D) (ci := 11) (v := .ref m_kd) (C := RX11) (T := TX11) (N := 40) hx hb hts zi_X11_princeNow_X11 hown hK hP 0 rfl rfl 7 (by decide) (hts (.fieldLink RX11 19 "BeatenInsteadModel" "kindOf" "[I") (List.mem_of_getElem? (i := 1) rfl)) (fun _ h9 => h9) rfl dX11_princeNow_37 ?_
    refine lv_iload_n hx hb dX11_princeNow_40 rfl (lv_at hl 1 rfl) ?_
    refine va_iald hx hb hK hP 1 0 rfl rfl (vp_in_nI (by omega) (by omega)) dX11_princeNow_41 ?_
    refine z_top (y := nI (kd p_)) (z_ld (f := fun q_ => nI (kd q_)) (a := p_) (by omega) rfl) ?_
    exact hret _ _ _ dX11_princeNow_42 (by rw [zAbout, if_neg (z_pn hp_ hnp), nI_clamp (by omega), if_pos rfl])
  by_cases w_1 : w = 1
  · subst w_1
    refine lv_tableIn (tgt := 43) (off := 42) hx hb dX11_princeNow_1 (by decide +kernel) (by decide +kernel) (by decide +kernel) (by decide) ?_
    refine lv_aload_n hx hb dX11_princeNow_43 rfl (lv_at hl 0 rfl) ?_
    refine va_get (D := D) (ci := 11) (v := .ref m_wt) (C := RX11) (T := TX11) (N := 40) hx hb hts zi_X11_princeNow_X11 hown hK hP 0 rfl rfl 8 (by decide) (hts (.fieldLink RX11 22 "BeatenInsteadModel" "witOf" "[I") (List.mem_of_getElem? (i := 2) rfl)) (fun _ h9 => h9) rfl dX11_princeNow_44 ?_
    refine lv_iload_n hx hb dX11_princeNow_47 rfl (lv_at hl 1 rfl) ?_
    refine va_iald hx hb hK hP 2 0 rfl rfl (vp_in_nI (by omega) (by omega)) dX11_princeNow_48 ?_
    refine z_top (y := nI (wt p_)) (z_ld (f := fun q_ => nI (wt q_)) (a := p_) (by omega) rfl) ?_
    exact hret _ _ _ dX11_princeNow_49 (by rw [zAbout, if_neg (z_pn hp_ hnp), nI_clamp (by omega), if_neg (by decide), if_pos rfl])
  by_cases w_2 : w = 2
  · subst w_2
    refine lv_tableIn (tgt := 50) (off := 49) hx hb dX11_princeNow_1 (by decide +kernel) (by decide +kernel) (by decide +kernel) (by decide) ?_
    refine lv_aload_n hx hb dX11_princeNow_50 rfl (lv_at hl 0 rfl) ?_
    refine va_get (D := D) (ci := 11) (v := .ref m_boys) (C := RX11) (T := TX11) (N := 40) hx hb hts zi_X11_princeNow_X11 hown hK hP 0 rfl rfl 9 (by decide) (hts (.fieldLink RX11 25 "BeatenInsteadModel" "boyOf" "[I") (List.mem_of_getElem? (i := 3) rfl)) (fun _ h9 => h9) rfl dX11_princeNow_51 ?_
    refine lv_iload_n hx hb dX11_princeNow_54 rfl (lv_at hl 1 rfl) ?_
    refine va_iald hx hb hK hP 3 0 rfl rfl (vp_in_nI (by omega) (by omega)) dX11_princeNow_55 ?_
    refine z_top (y := nI (boys p_)) (z_ld (f := fun q_ => nI (boys q_)) (a := p_) (by omega) rfl) ?_
    exact hret _ _ _ dX11_princeNow_56 (by rw [zAbout, if_neg (z_pn hp_ hnp), nI_clamp (by omega), if_neg (by decide), if_neg (by decide), if_pos rfl])
  by_cases w_3 : w = 3
  · subst w_3
    refine lv_tableIn (tgt := 57) (off := 56) hx hb dX11_princeNow_1 (by decide +kernel) (by decide +kernel) (by decide +kernel) (by decide) ?_
    refine lv_aload_n hx hb dX11_princeNow_57 rfl (lv_at hl 0 rfl) ?_
    refine lv_iload_n hx hb dX11_princeNow_58 rfl (lv_at hl 1 rfl) ?_
    refine vp_callSi (z_runV (b := mo) (As := [.int (nI p_)]) (rest := []) hx hb hml hown hts hK hN hl.1 (c_X11_feelsNow l D cI cB cP mo m_hard m_blows m_stripes m_kd m_wt m_boys m_learnt m_fond m_qp m_ql m_qr m_codes m_left m_row m_sv m_k_fond m_k_stripes m_k_learnt m_k_boys m_k_qp m_k_ql m_k_qr wI nM sS sF lM sN iK kS kP kH hh sch asks lessons limit np nh size kd boys fond p_ (by omega) (hkd) (hby) (hfo)) gX11_princeNow_X11_feelsNow rfl zd_X11_feelsNow rfl (Nat.le_of_ble_eq_true rfl) (Nat.le_of_ble_eq_true rfl) (va_P.sub (ws' := [(mo, .inr (11, [.int sch, .int (nI lessons), .int (nI limit), .ref m_hard, .ref m_blows, .ref m_stripes, .int (nI np), .ref m_kd, .ref m_wt, .ref m_boys, .ref m_learnt, .ref m_fond, .int (nI nh), .ref m_qp, .ref m_ql, .ref m_qr, .int asks, .int (nI size), .ref m_codes, .int wI, .int nM, .int sS, .int sF, .ref m_left, .int lM, .ref m_row, .long sN, .ref m_sv, .int iK, .int kS, .int kP, .int kH, .ref m_k_fond, .ref m_k_stripes, .ref m_k_learnt, .ref m_k_boys, .ref m_k_qp, .ref m_k_ql, .ref m_k_qr, .long hh])), (m_kd, .inl (cI, 3, .inl (fun q_ => nI (kd q_)))), (m_boys, .inl (cI, 3, .inl (fun q_ => nI (boys q_)))), (m_fond, .inl (cI, 9, .inl (fun q_ => nI (fond q_))))]) hP [0, 1, 3, 5] rfl) (va_recv hK hP (ci := 11) (q0 := 0) rfl rfl) rfl (Nat.le_of_ble_eq_true rfl) dX11_princeNow_59 ⟨Nat.zero_le _, Nat.zero_le _⟩) (fun r hr => ?_)
    subst hr
    exact hret _ _ _ dX11_princeNow_62 (by rw [zAbout_3 (z_pn hp_ hnp), nI_clamp (by omega)])
  by_cases w_4 : w = 4
  · subst w_4
    refine lv_tableIn (tgt := 63) (off := 62) hx hb dX11_princeNow_1 (by decide +kernel) (by decide +kernel) (by decide +kernel) (by decide) ?_
    refine lv_aload_n hx hb dX11_princeNow_63 rfl (lv_at hl 0 rfl) ?_
    refine va_get (D := D) (ci := 11) (v := .ref m_learnt) (C := RX11) (T := TX11) (N := 40) hx hb hts zi_X11_princeNow_X11 hown hK hP 0 rfl rfl 10 (by decide) (hts (.fieldLink RX11 28 "BeatenInsteadModel" "learntOf" "[I") (List.mem_of_getElem? (i := 4) rfl)) (fun _ h9 => h9) rfl dX11_princeNow_64 ?_
    refine lv_iload_n hx hb dX11_princeNow_67 rfl (lv_at hl 1 rfl) ?_
    refine va_iald hx hb hK hP 4 0 rfl rfl (vp_in_nI (by omega) (by omega)) dX11_princeNow_68 ?_
    refine z_top (y := nI (learnt p_)) (z_ld (f := fun q_ => nI (learnt q_)) (a := p_) (by omega) rfl) ?_
    exact hret _ _ _ dX11_princeNow_69 (by rw [zAbout, if_neg (z_pn hp_ hnp), nI_clamp (by omega), if_neg (by decide), if_neg (by decide), if_neg (by decide), if_neg (by decide), if_pos rfl])
  refine lv_tableOut (tgt := 70) hx hb dX11_princeNow_1 (by have e0 := z_ne (k := 0) w_0 (by omega); have e1 := z_ne (k := 1) w_1 (by omega); have e2 := z_ne (k := 2) w_2 (by omega); have e3 := z_ne (k := 3) w_3 (by omega); have e4 := z_ne (k := 4) w_4 (by omega); omega) (by decide) ?_
  obtain ⟨b_, hb_, rfl⟩ := z_w3 (((((hw.resolve_left w_0).resolve_left w_1).resolve_left w_2).resolve_left w_3).resolve_left w_4)
  refine lv_aload_n hx hb dX11_princeNow_70 rfl (lv_at hl 0 rfl) ?_
  refine va_get (D := D) (ci := 11) (v := .ref m_fond) (C := RX11) (T := TX11) (N := 40) hx hb hts zi_X11_princeNow_X11 hown hK hP 0 rfl rfl 11 (by decide) (hts (.fieldLink RX11 31 "BeatenInsteadModel" "fondOf" "[I") (List.mem_of_getElem? (i := 5) rfl)) (fun _ h9 => h9) rfl dX11_princeNow_71 ?_
  refine lv_iconst (v := 3) hx hb dX11_princeNow_74 (by decide) ?_
  refine lv_iload_n hx hb dX11_princeNow_75 rfl (lv_at hl 1 rfl) ?_
  refine lv_imul hx hb dX11_princeNow_76 ?_
  refine z_top (show (3 * (nI p_)) = nI (p_ * 3) from (pk_mul 3 p_).trans (by rw [Nat.mul_comm])) ?_
  refine lv_iload_n hx hb dX11_princeNow_77 rfl (lv_at hl 2 rfl) ?_
  refine lv_iadd hx hb dX11_princeNow_78 ?_
  refine z_top (show ((nI (p_ * 3)) + (nI (10 + b_))) = nI (p_ * 3 + (10 + b_)) from nI_add (p_ * 3) (10 + b_)) ?_
  refine lv_bipush (v := (10)) hx hb dX11_princeNow_79 (by decide) ?_
  refine lv_isub hx hb dX11_princeNow_81 ?_
  refine z_top (show ((nI (p_ * 3 + (10 + b_))) - 10) = nI (p_ * 3 + b_) from (pk_sub (a := p_ * 3 + (10 + b_)) (b := 10) (by omega)).trans (by congr 1; omega)) ?_
  refine va_iald hx hb hK hP 5 0 rfl rfl (vp_in_nI (by omega) (by omega)) dX11_princeNow_82 ?_
  refine z_top (y := nI (fond (p_ * 3 + b_))) (z_ld (f := fun q_ => nI (fond q_)) (a := p_ * 3 + b_) (by omega) rfl) ?_
  exact hret _ _ _ dX11_princeNow_83 (by rw [zAbout_5 (z_pn hp_ hnp) hb_, nI_clamp (by omega)])

abbrev rm_X11_about : Room := { frames := 3, cells := 0, slots := 0, locals := 65 }
set_option maxHeartbeats 4000000 in
set_option maxRecDepth 100000 in
theorem c_X11_about (l : Launch) (D : va_G) (cI cB cP : ClassId) (mo : Nat) (m_hard : Nat) (m_blows : Nat) (m_stripes : Nat) (m_kd : Nat) (m_wt : Nat) (m_boys : Nat) (m_learnt : Nat) (m_fond : Nat) (m_qp : Nat) (m_ql : Nat) (m_qr : Nat) (m_codes : Nat) (m_left : Nat) (m_row : Nat) (m_sv : Nat) (m_k_fond : Nat) (m_k_stripes : Nat) (m_k_learnt : Nat) (m_k_boys : Nat) (m_k_qp : Nat) (m_k_ql : Nat) (m_k_qr : Nat) (wI : Int32) (nM : Int32) (sS : Int32) (sF : Int32) (lM : Int32) (sN : Int64) (iK : Int32) (kS : Int32) (kP : Int32) (kH : Int32) (hh : Int64) (sch : Int32) (asks : Int32) (lessons : Nat) (limit : Nat) (np : Nat) (nh : Nat) (size : Nat) (kd : Nat → Nat) (wt : Nat → Nat) (boys : Nat → Nat) (learnt : Nat → Nat) (fond : Nat → Nat) (num : Int32) (w : Int32) (hnp : np ≤ 3) (hkd : ∀ i, kd i < 5) (hby : ∀ i, boys i < 3) (hfo : ∀ i, fond i ≤ 9) (hle : ∀ i, learnt i < 32)  : zPi l D cI cB cP yX11_about wsX11_about rm_X11_about [.ref mo, .int num, .int w] ([(mo, .inr (11, [.int sch, .int (nI lessons), .int (nI limit), .ref m_hard, .ref m_blows, .ref m_stripes, .int (nI np), .ref m_kd, .ref m_wt, .ref m_boys, .ref m_learnt, .ref m_fond, .int (nI nh), .ref m_qp, .ref m_ql, .ref m_qr, .int asks, .int (nI size), .ref m_codes, .int wI, .int nM, .int sS, .int sF, .ref m_left, .int lM, .ref m_row, .long sN, .ref m_sv, .int iK, .int kS, .int kP, .int kH, .ref m_k_fond, .ref m_k_stripes, .ref m_k_learnt, .ref m_k_boys, .ref m_k_qp, .ref m_k_ql, .ref m_k_qr, .long hh])), (m_kd, .inl (cI, 3, .inl (fun q_ => nI (kd q_)))), (m_wt, .inl (cI, 3, .inl (fun q_ => nI (wt q_)))), (m_boys, .inl (cI, 3, .inl (fun q_ => nI (boys q_)))), (m_learnt, .inl (cI, 3, .inl (fun q_ => nI (learnt q_)))), (m_fond, .inl (cI, 9, .inl (fun q_ => nI (fond q_))))]) (fun r => r = zAbout np kd wt fond boys learnt num w) := by
  refine zPi_of (cc := cX11_about) (maxL := 3) (by decide) rfl (Nat.le_of_ble_eq_true rfl) ?_
  intro p e s m args below meth c ls Q hx hb hml hts hown hP hK hN hl hret
  have hown : s.vm.findClass RX11 = some m.cls := hown
  have hl : lv_has ls 3 [(0, .ref mo), (1, .int num), (2, .int w)] := hl
  refine lv_aload_n hx hb dX11_about_0 rfl (lv_at hl 0 rfl) ?_
  refine lv_iload_n hx hb dX11_about_1 rfl (lv_at hl 1 rfl) ?_
  refine vp_callSi (z_runV (b := mo) (As := [.int num]) (rest := []) hx hb hml hown hts hK hN hl.1 (c_X11_isPrince l D cI cB cP mo m_hard m_blows m_stripes m_kd m_wt m_boys m_learnt m_fond m_qp m_ql m_qr m_codes m_left m_row m_sv m_k_fond m_k_stripes m_k_learnt m_k_boys m_k_qp m_k_ql m_k_qr wI nM sS sF lM sN iK kS kP kH hh sch asks lessons limit np nh size num (by first | assumption | omega)) gX11_about_X11_isPrince rfl zd_X11_isPrince rfl (Nat.le_of_ble_eq_true rfl) (Nat.le_of_ble_eq_true rfl) (va_P.sub (ws' := [(mo, .inr (11, [.int sch, .int (nI lessons), .int (nI limit), .ref m_hard, .ref m_blows, .ref m_stripes, .int (nI np), .ref m_kd, .ref m_wt, .ref m_boys, .ref m_learnt, .ref m_fond, .int (nI nh), .ref m_qp, .ref m_ql, .ref m_qr, .int asks, .int (nI size), .ref m_codes, .int wI, .int nM, .int sS, .int sF, .ref m_left, .int lM, .ref m_row, .long sN, .ref m_sv, .int iK, .int kS, .int kP, .int kH, .ref m_k_fond, .ref m_k_stripes, .ref m_k_learnt, .ref m_k_boys, .ref m_k_qp, .ref m_k_ql, .ref m_k_qr, .long hh]))]) hP [0] rfl) (va_recv hK hP (ci := 11) (q0 := 0) rfl rfl) rfl (Nat.le_of_ble_eq_true rfl) dX11_about_2 ⟨Nat.zero_le _, Nat.zero_le _⟩) (fun r hr => ?_)
  rcases hr with ⟨rfl, c_1⟩ | ⟨rfl, c_1⟩
  · skip
    refine lv_if_ne (tgt := 13) hx hb dX11_about_5 (by decide) (fun _ => ?_) (fun c => absurd c (by decide))
    refine lv_iload_n hx hb dX11_about_13 rfl (lv_at hl 2 rfl) ?_
    refine lv_iconst (v := 0) hx hb dX11_about_14 (by decide) ?_
    refine lv_iconst (v := 4) hx hb dX11_about_15 (by decide) ?_
    refine vp_callSi (z_runS (As := [.int w, .int 0, .int 4]) (rest := []) hx hb hml hown hts hK hN hl.1 (c_X11_within l D cI cB cP w 0 4) gX11_about_X11_within rfl zd_X11_within rfl (Nat.le_of_ble_eq_true rfl) (Nat.le_of_ble_eq_true rfl) z_p0 rfl (Nat.le_of_ble_eq_true rfl) dX11_about_16 ⟨Nat.zero_le _, Nat.zero_le _⟩) (fun r hr => ?_)
    rcases hr with ⟨rfl, c_2⟩ | ⟨rfl, c_2⟩
    · skip
      refine lv_if_ne (tgt := 33) hx hb dX11_about_19 (by decide) (fun _ => ?_) (fun c => absurd c (by decide))
      obtain ⟨pn, hp, rfl⟩ := z_natlt c_1.1 c_1.2 (by omega)
      refine lv_aload_n hx hb dX11_about_33 rfl (lv_at hl 0 rfl) ?_
      refine lv_iload_n hx hb dX11_about_34 rfl (lv_at hl 1 rfl) ?_
      refine lv_iload_n hx hb dX11_about_35 rfl (lv_at hl 2 rfl) ?_
      refine vp_callSi (z_runV (b := mo) (As := [.int (nI pn), .int w]) (rest := []) hx hb hml hown hts hK hN hl.1 (c_X11_princeNow l D cI cB cP mo m_hard m_blows m_stripes m_kd m_wt m_boys m_learnt m_fond m_qp m_ql m_qr m_codes m_left m_row m_sv m_k_fond m_k_stripes m_k_learnt m_k_boys m_k_qp m_k_ql m_k_qr wI nM sS sF lM sN iK kS kP kH hh sch asks lessons limit np nh size kd wt boys learnt fond pn w (hp) (hnp) (hkd) (hby) (hfo) (hle) (by first | exact z_w5 c_2 | exact Or.inr (Or.inr (Or.inr (Or.inr (Or.inr (z_w12.mp c_3))))))) gX11_about_X11_princeNow rfl zd_X11_princeNow rfl (Nat.le_of_ble_eq_true rfl) (Nat.le_of_ble_eq_true rfl) (va_P.sub (ws' := [(mo, .inr (11, [.int sch, .int (nI lessons), .int (nI limit), .ref m_hard, .ref m_blows, .ref m_stripes, .int (nI np), .ref m_kd, .ref m_wt, .ref m_boys, .ref m_learnt, .ref m_fond, .int (nI nh), .ref m_qp, .ref m_ql, .ref m_qr, .int asks, .int (nI size), .ref m_codes, .int wI, .int nM, .int sS, .int sF, .ref m_left, .int lM, .ref m_row, .long sN, .ref m_sv, .int iK, .int kS, .int kP, .int kH, .ref m_k_fond, .ref m_k_stripes, .ref m_k_learnt, .ref m_k_boys, .ref m_k_qp, .ref m_k_ql, .ref m_k_qr, .long hh])), (m_kd, .inl (cI, 3, .inl (fun q_ => nI (kd q_)))), (m_wt, .inl (cI, 3, .inl (fun q_ => nI (wt q_)))), (m_boys, .inl (cI, 3, .inl (fun q_ => nI (boys q_)))), (m_learnt, .inl (cI, 3, .inl (fun q_ => nI (learnt q_)))), (m_fond, .inl (cI, 9, .inl (fun q_ => nI (fond q_))))]) hP [0, 1, 2, 3, 4, 5] rfl) (va_recv hK hP (ci := 11) (q0 := 0) rfl rfl) rfl (Nat.le_of_ble_eq_true rfl) dX11_about_36 ⟨Nat.zero_le _, Nat.zero_le _⟩) (fun r hr => ?_)
      subst hr
      refine lv_goto (tgt := 44) hx hb dX11_about_39 (by decide) ?_
      exact hret _ _ _ dX11_about_44 rfl
    · skip
      refine lv_if_ne (tgt := 33) hx hb dX11_about_19 (by decide) (fun c => absurd c (by decide)) (fun _ => ?_)
      refine lv_iload_n hx hb dX11_about_22 rfl (lv_at hl 2 rfl) ?_
      refine lv_bipush (v := (10)) hx hb dX11_about_23 (by decide) ?_
      refine lv_bipush (v := (12)) hx hb dX11_about_25 (by decide) ?_
      refine vp_callSi (z_runS (As := [.int w, .int 10, .int 12]) (rest := []) hx hb hml hown hts hK hN hl.1 (c_X11_within l D cI cB cP w 10 12) gX11_about_X11_within rfl zd_X11_within rfl (Nat.le_of_ble_eq_true rfl) (Nat.le_of_ble_eq_true rfl) z_p0 rfl (Nat.le_of_ble_eq_true rfl) dX11_about_27 ⟨Nat.zero_le _, Nat.zero_le _⟩) (fun r hr => ?_)
      rcases hr with ⟨rfl, c_3⟩ | ⟨rfl, c_3⟩
      · skip
        refine lv_if_eq (tgt := 42) hx hb dX11_about_30 (by decide) (fun c => absurd c (by decide)) (fun _ => ?_)
        obtain ⟨pn, hp, rfl⟩ := z_natlt c_1.1 c_1.2 (by omega)
        refine lv_aload_n hx hb dX11_about_33 rfl (lv_at hl 0 rfl) ?_
        refine lv_iload_n hx hb dX11_about_34 rfl (lv_at hl 1 rfl) ?_
        refine lv_iload_n hx hb dX11_about_35 rfl (lv_at hl 2 rfl) ?_
        refine vp_callSi (z_runV (b := mo) (As := [.int (nI pn), .int w]) (rest := []) hx hb hml hown hts hK hN hl.1 (c_X11_princeNow l D cI cB cP mo m_hard m_blows m_stripes m_kd m_wt m_boys m_learnt m_fond m_qp m_ql m_qr m_codes m_left m_row m_sv m_k_fond m_k_stripes m_k_learnt m_k_boys m_k_qp m_k_ql m_k_qr wI nM sS sF lM sN iK kS kP kH hh sch asks lessons limit np nh size kd wt boys learnt fond pn w (hp) (hnp) (hkd) (hby) (hfo) (hle) (by first | exact z_w5 c_2 | exact Or.inr (Or.inr (Or.inr (Or.inr (Or.inr (z_w12.mp c_3))))))) gX11_about_X11_princeNow rfl zd_X11_princeNow rfl (Nat.le_of_ble_eq_true rfl) (Nat.le_of_ble_eq_true rfl) (va_P.sub (ws' := [(mo, .inr (11, [.int sch, .int (nI lessons), .int (nI limit), .ref m_hard, .ref m_blows, .ref m_stripes, .int (nI np), .ref m_kd, .ref m_wt, .ref m_boys, .ref m_learnt, .ref m_fond, .int (nI nh), .ref m_qp, .ref m_ql, .ref m_qr, .int asks, .int (nI size), .ref m_codes, .int wI, .int nM, .int sS, .int sF, .ref m_left, .int lM, .ref m_row, .long sN, .ref m_sv, .int iK, .int kS, .int kP, .int kH, .ref m_k_fond, .ref m_k_stripes, .ref m_k_learnt, .ref m_k_boys, .ref m_k_qp, .ref m_k_ql, .ref m_k_qr, .long hh])), (m_kd, .inl (cI, 3, .inl (fun q_ => nI (kd q_)))), (m_wt, .inl (cI, 3, .inl (fun q_ => nI (wt q_)))), (m_boys, .inl (cI, 3, .inl (fun q_ => nI (boys q_)))), (m_learnt, .inl (cI, 3, .inl (fun q_ => nI (learnt q_)))), (m_fond, .inl (cI, 9, .inl (fun q_ => nI (fond q_))))]) hP [0, 1, 2, 3, 4, 5] rfl) (va_recv hK hP (ci := 11) (q0 := 0) rfl rfl) rfl (Nat.le_of_ble_eq_true rfl) dX11_about_36 ⟨Nat.zero_le _, Nat.zero_le _⟩) (fun r hr => ?_)
        subst hr
        refine lv_goto (tgt := 44) hx hb dX11_about_39 (by decide) ?_
        exact hret _ _ _ dX11_about_44 rfl
      · skip
        refine lv_if_eq (tgt := 42) hx hb dX11_about_30 (by decide) (fun _ => ?_) (fun c => absurd c (by decide))
        refine lv_bipush (v := (-102)) hx hb dX11_about_42 (by decide) ?_
        exact hret _ _ _ dX11_about_44 (by rw [zAbout_x (fun h => h.elim c_1.1 (fun h => h c_1.2)) c_2 c_3])
  · skip
    refine lv_if_ne (tgt := 13) hx hb dX11_about_5 (by decide) (fun c => absurd c (by decide)) (fun _ => ?_)
    refine lv_bipush (v := (-101)) hx hb dX11_about_8 (by decide) ?_
    refine lv_goto (tgt := 44) hx hb dX11_about_10 (by decide) ?_
    exact hret _ _ _ dX11_about_44 (by rw [zAbout, if_pos (z_nl c_1)])

theorem zi_X11_as_X11 : ∀ w ∈ wsX110, w ∈ wsX11_as := fun _ h => List.mem_cons_of_mem _ (List.mem_append_right _ (h))
abbrev rm_X11_as : Room := { frames := 2, cells := 0, slots := 0, locals := 43 }
set_option maxHeartbeats 4000000 in
set_option maxRecDepth 100000 in
theorem c_X11_as (l : Launch) (D : va_G) (cI cB cP : ClassId) (mo : Nat) (m_hard : Nat) (m_blows : Nat) (m_stripes : Nat) (m_kd : Nat) (m_wt : Nat) (m_boys : Nat) (m_learnt : Nat) (m_fond : Nat) (m_qp : Nat) (m_ql : Nat) (m_qr : Nat) (m_codes : Nat) (m_left : Nat) (m_row : Nat) (m_sv : Nat) (m_k_fond : Nat) (m_k_stripes : Nat) (m_k_learnt : Nat) (m_k_boys : Nat) (m_k_qp : Nat) (m_k_ql : Nat) (m_k_qr : Nat) (wI : Int32) (nM : Int32) (sS : Int32) (sF : Int32) (lM : Int32) (sN : Int64) (iK : Int32) (kS : Int32) (kP : Int32) (kH : Int32) (hh : Int64) (sch : Int32) (asks : Int32) (lessons : Nat) (limit : Nat) (np : Nat) (nh : Nat) (size : Nat) (kd : Nat → Nat) (num : Int32) (k_ : Int32) (hnp : np ≤ 3) (hkd : ∀ i, kd i < 5)  : zPi l D cI cB cP yX11_as wsX11_as rm_X11_as [.ref mo, .int num, .int k_] ([(mo, .inr (11, [.int sch, .int (nI lessons), .int (nI limit), .ref m_hard, .ref m_blows, .ref m_stripes, .int (nI np), .ref m_kd, .ref m_wt, .ref m_boys, .ref m_learnt, .ref m_fond, .int (nI nh), .ref m_qp, .ref m_ql, .ref m_qr, .int asks, .int (nI size), .ref m_codes, .int wI, .int nM, .int sS, .int sF, .ref m_left, .int lM, .ref m_row, .long sN, .ref m_sv, .int iK, .int kS, .int kP, .int kH, .ref m_k_fond, .ref m_k_stripes, .ref m_k_learnt, .ref m_k_boys, .ref m_k_qp, .ref m_k_ql, .ref m_k_qr, .long hh])), (m_kd, .inl (cI, 3, .inl (fun q_ => nI (kd q_))))]) (fun r => r = zAs np kd num k_) := by
  refine zPi_of (cc := cX11_as) (maxL := 4) (by decide) rfl (Nat.le_of_ble_eq_true rfl) ?_
  intro p e s m args below meth c ls Q hx hb hml hts hown hP hK hN hl hret
  have hown : s.vm.findClass RX11 = some m.cls := hown
  have hl : lv_has ls 4 [(0, .ref mo), (1, .int num), (2, .int k_)] := hl
  refine lv_aload_n hx hb dX11_as_0 rfl (lv_at hl 0 rfl) ?_
  refine lv_iload_n hx hb dX11_as_1 rfl (lv_at hl 1 rfl) ?_
  refine vp_callSi (z_runV (b := mo) (As := [.int num]) (rest := []) hx hb hml hown hts hK hN hl.1 (c_X11_isPrince l D cI cB cP mo m_hard m_blows m_stripes m_kd m_wt m_boys m_learnt m_fond m_qp m_ql m_qr m_codes m_left m_row m_sv m_k_fond m_k_stripes m_k_learnt m_k_boys m_k_qp m_k_ql m_k_qr wI nM sS sF lM sN iK kS kP kH hh sch asks lessons limit np nh size num (by first | assumption | omega)) gX11_as_X11_isPrince rfl zd_X11_isPrince rfl (Nat.le_of_ble_eq_true rfl) (Nat.le_of_ble_eq_true rfl) (va_P.sub (ws' := [(mo, .inr (11, [.int sch, .int (nI lessons), .int (nI limit), .ref m_hard, .ref m_blows, .ref m_stripes, .int (nI np), .ref m_kd, .ref m_wt, .ref m_boys, .ref m_learnt, .ref m_fond, .int (nI nh), .ref m_qp, .ref m_ql, .ref m_qr, .int asks, .int (nI size), .ref m_codes, .int wI, .int nM, .int sS, .int sF, .ref m_left, .int lM, .ref m_row, .long sN, .ref m_sv, .int iK, .int kS, .int kP, .int kH, .ref m_k_fond, .ref m_k_stripes, .ref m_k_learnt, .ref m_k_boys, .ref m_k_qp, .ref m_k_ql, .ref m_k_qr, .long hh]))]) hP [0] rfl) (va_recv hK hP (ci := 11) (q0 := 0) rfl rfl) rfl (Nat.le_of_ble_eq_true rfl) dX11_as_2 ⟨Nat.zero_le _, Nat.zero_le _⟩) (fun r hr => ?_)
  rcases hr with ⟨rfl, c_1⟩ | ⟨rfl, c_1⟩
  · skip
    refine lv_if_ne (tgt := 11) hx hb dX11_as_5 (by decide) (fun _ => ?_) (fun c => absurd c (by decide))
    refine lv_iload_n hx hb dX11_as_11 rfl (lv_at hl 2 rfl) ?_
    refine lv_iconst (v := 0) hx hb dX11_as_12 (by decide) ?_
    refine lv_iconst (v := 4) hx hb dX11_as_13 (by decide) ?_
    refine vp_callSi (z_runS (As := [.int k_, .int 0, .int 4]) (rest := []) hx hb hml hown hts hK hN hl.1 (c_X11_within l D cI cB cP k_ 0 4) gX11_as_X11_within rfl zd_X11_within rfl (Nat.le_of_ble_eq_true rfl) (Nat.le_of_ble_eq_true rfl) z_p0 rfl (Nat.le_of_ble_eq_true rfl) dX11_as_14 ⟨Nat.zero_le _, Nat.zero_le _⟩) (fun r hr => ?_)
    rcases hr with ⟨rfl, c_2⟩ | ⟨rfl, c_2⟩
    · skip
      refine lv_if_ne (tgt := 23) hx hb dX11_as_17 (by decide) (fun _ => ?_) (fun c => absurd c (by decide))
      obtain ⟨pn, hp, rfl⟩ := z_natlt c_1.1 c_1.2 (by omega)
      have hkp := hkd pn
      obtain ⟨k, hk_, rfl⟩ := z_natle c_2.1 (n := 4) c_2.2 (by omega)
      refine lv_aload_n hx hb dX11_as_23 rfl (lv_at hl 0 rfl) ?_
      refine va_get (D := D) (ci := 11) (v := .ref m_kd) (C := RX11) (T := TX11) (N := 40) hx hb hts zi_X11_as_X11 hown hK hP 0 rfl rfl 7 (by decide) (hts (.fieldLink RX11 19 "BeatenInsteadModel" "kindOf" "[I") (List.mem_of_getElem? (i := 1) rfl)) (fun _ h9 => h9) rfl dX11_as_24 ?_
      refine lv_iload_n hx hb dX11_as_27 rfl (lv_at hl 1 rfl) ?_
      refine va_iald hx hb hK hP 1 0 rfl rfl (vp_in_nI (by omega) (by omega)) dX11_as_28 ?_
      refine z_top (y := nI (kd pn)) (z_ld (f := fun q_ => nI (kd q_)) (a := pn) (by omega) rfl) ?_
      refine lv_istore_n (lv' := [(3, .int (nI (kd pn))), (0, .ref mo), (1, .int (nI pn)), (2, .int (nI k))]) hx hb dX11_as_29 rfl hl (by decide) rfl (fun ls hl => ?_)
      refine lv_iload_n hx hb dX11_as_30 rfl (lv_at hl 3 rfl) ?_
      refine lv_if_eq (tgt := 49) hx hb dX11_as_31 (by decide) (fun c_3 => ?_) (fun c_3 => ?_)
      · skip
        have c_3 : k = 0 := (nI_eq (a := k) (b := 0) (by omega) (by omega)).mp c_3
        refine lv_iload_n hx hb dX11_as_49 rfl (lv_at hl 2 rfl) ?_
        refine lv_goto (tgt := 54) hx hb dX11_as_50 (by decide) ?_
        exact hret _ _ _ dX11_as_54 (by rw [zAs, if_neg (z_pn hp hnp), if_pos ⟨c_2.1, Int32.not_lt.mp c_2.2⟩, nI_clamp (by omega), nI_clamp (by omega)]; first | rw [if_pos (by omega)] | rw [if_neg (by omega)])
      · skip
        have c_3 : ¬ (k = 0) := (not_congr (nI_eq (a := k) (b := 0) (by omega) (by omega))).mp c_3
        refine lv_iload_n hx hb dX11_as_34 rfl (lv_at hl 0 rfl) ?_
        refine lv_iload_n hx hb dX11_as_35 rfl (lv_at hl 3 rfl) ?_
        refine lv_icmp_eq (tgt := 49) hx hb dX11_as_36 (by decide) (fun c_4 => ?_) (fun c_4 => ?_)
        · skip
          have c_4 : kd pn = k := (nI_eq (a := kd pn) (b := k) (by omega) (by omega)).mp c_4
          refine lv_iload_n hx hb dX11_as_49 rfl (lv_at hl 2 rfl) ?_
          refine lv_goto (tgt := 54) hx hb dX11_as_50 (by decide) ?_
          exact hret _ _ _ dX11_as_54 (by rw [zAs, if_neg (z_pn hp hnp), if_pos ⟨c_2.1, Int32.not_lt.mp c_2.2⟩, nI_clamp (by omega), nI_clamp (by omega)]; first | rw [if_pos (by omega)] | rw [if_neg (by omega)])
        · skip
          have c_4 : ¬ (kd pn = k) := (not_congr (nI_eq (a := kd pn) (b := k) (by omega) (by omega))).mp c_4
          refine lv_iload_n hx hb dX11_as_39 rfl (lv_at hl 3 rfl) ?_
          refine lv_iconst (v := 1) hx hb dX11_as_40 (by decide) ?_
          refine lv_icmp_ne (tgt := 53) hx hb dX11_as_41 (by decide) (fun c_5 => ?_) (fun c_5 => ?_)
          · skip
            have c_5 : ¬ (k = 1) := (not_congr (nI_eq (a := k) (b := 1) (by omega) (by omega))).mp c_5
            refine lv_iconst (v := (-1)) hx hb dX11_as_53 (by decide) ?_
            exact hret _ _ _ dX11_as_54 (by rw [zAs, if_neg (z_pn hp hnp), if_pos ⟨c_2.1, Int32.not_lt.mp c_2.2⟩, nI_clamp (by omega), nI_clamp (by omega)]; first | rw [if_pos (by omega)] | rw [if_neg (by omega)])
          · skip
            have c_5 : k = 1 := (nI_eq (a := k) (b := 1) (by omega) (by omega)).mp c_5
            refine lv_iload_n hx hb dX11_as_44 rfl (lv_at hl 0 rfl) ?_
            refine lv_iconst (v := 4) hx hb dX11_as_45 (by decide) ?_
            refine lv_icmp_ne (tgt := 53) hx hb dX11_as_46 (by decide) (fun c_6 => ?_) (fun c_6 => ?_)
            · skip
              have c_6 : ¬ (kd pn = 4) := (not_congr (nI_eq (a := kd pn) (b := 4) (by omega) (by omega))).mp c_6
              refine lv_iconst (v := (-1)) hx hb dX11_as_53 (by decide) ?_
              exact hret _ _ _ dX11_as_54 (by rw [zAs, if_neg (z_pn hp hnp), if_pos ⟨c_2.1, Int32.not_lt.mp c_2.2⟩, nI_clamp (by omega), nI_clamp (by omega)]; first | rw [if_pos (by omega)] | rw [if_neg (by omega)])
            · skip
              have c_6 : kd pn = 4 := (nI_eq (a := kd pn) (b := 4) (by omega) (by omega)).mp c_6
              refine lv_iload_n hx hb dX11_as_49 rfl (lv_at hl 2 rfl) ?_
              refine lv_goto (tgt := 54) hx hb dX11_as_50 (by decide) ?_
              exact hret _ _ _ dX11_as_54 (by rw [zAs, if_neg (z_pn hp hnp), if_pos ⟨c_2.1, Int32.not_lt.mp c_2.2⟩, nI_clamp (by omega), nI_clamp (by omega)]; first | rw [if_pos (by omega)] | rw [if_neg (by omega)])
    · skip
      refine lv_if_ne (tgt := 23) hx hb dX11_as_17 (by decide) (fun c => absurd c (by decide)) (fun _ => ?_)
      refine lv_bipush (v := (-102)) hx hb dX11_as_20 (by decide) ?_
      exact hret _ _ _ dX11_as_22 (by rw [zAs, if_neg (fun h => h.elim c_1.1 (fun h => h c_1.2)), if_neg (fun h => c_2 ⟨h.1, Int32.not_lt.mpr h.2⟩)])
  · skip
    refine lv_if_ne (tgt := 11) hx hb dX11_as_5 (by decide) (fun c => absurd c (by decide)) (fun _ => ?_)
    refine lv_bipush (v := (-101)) hx hb dX11_as_8 (by decide) ?_
    exact hret _ _ _ dX11_as_10 (by rw [zAs, if_pos (z_nl c_1)])

abbrev rm_X11_tenths : Room := { frames := 3, cells := 0, slots := 0, locals := 68 }
set_option maxHeartbeats 4000000 in
set_option maxRecDepth 100000 in
theorem c_X11_tenths (l : Launch) (D : va_G) (cI cB cP : ClassId) (mo : Nat) (m_hard : Nat) (m_blows : Nat) (m_stripes : Nat) (m_kd : Nat) (m_wt : Nat) (m_boys : Nat) (m_learnt : Nat) (m_fond : Nat) (m_qp : Nat) (m_ql : Nat) (m_qr : Nat) (m_codes : Nat) (m_left : Nat) (m_row : Nat) (m_sv : Nat) (m_k_fond : Nat) (m_k_stripes : Nat) (m_k_learnt : Nat) (m_k_boys : Nat) (m_k_qp : Nat) (m_k_ql : Nat) (m_k_qr : Nat) (wI : Int32) (nM : Int32) (sS : Int32) (sF : Int32) (lM : Int32) (sN : Int64) (iK : Int32) (kS : Int32) (kP : Int32) (kH : Int32) (hh : Int64) (sch : Int32) (asks : Int32) (lessons : Nat) (limit : Nat) (np : Nat) (nh : Nat) (size : Nat) (hard : Nat → Nat) (kd : Nat → Nat) (wt : Nat → Nat) (boys : Nat → Nat) (fond : Nat → Nat) (num : Int32) (l_ : Int32) (hnp : np ≤ 3) (hls : lessons ≤ 5) (hkd : ∀ i, kd i < 5) (hwt : ∀ i, wt i ≤ 9) (hha : ∀ i, hard i ≤ 9) (hby : ∀ i, boys i < 3) (hfo : ∀ i, fond i ≤ 9)  : zPi l D cI cB cP yX11_tenths wsX11_tenths rm_X11_tenths [.ref mo, .int num, .int l_] ([(mo, .inr (11, [.int sch, .int (nI lessons), .int (nI limit), .ref m_hard, .ref m_blows, .ref m_stripes, .int (nI np), .ref m_kd, .ref m_wt, .ref m_boys, .ref m_learnt, .ref m_fond, .int (nI nh), .ref m_qp, .ref m_ql, .ref m_qr, .int asks, .int (nI size), .ref m_codes, .int wI, .int nM, .int sS, .int sF, .ref m_left, .int lM, .ref m_row, .long sN, .ref m_sv, .int iK, .int kS, .int kP, .int kH, .ref m_k_fond, .ref m_k_stripes, .ref m_k_learnt, .ref m_k_boys, .ref m_k_qp, .ref m_k_ql, .ref m_k_qr, .long hh])), (m_hard, .inl (cI, 5, .inl (fun q_ => nI (hard q_)))), (m_kd, .inl (cI, 3, .inl (fun q_ => nI (kd q_)))), (m_wt, .inl (cI, 3, .inl (fun q_ => nI (wt q_)))), (m_boys, .inl (cI, 3, .inl (fun q_ => nI (boys q_)))), (m_fond, .inl (cI, 9, .inl (fun q_ => nI (fond q_))))]) (fun r => r = zTenths np lessons kd wt fond boys hard num l_) := by
  refine zPi_of (cc := cX11_tenths) (maxL := 3) (by decide) rfl (Nat.le_of_ble_eq_true rfl) ?_
  intro p e s m args below meth c ls Q hx hb hml hts hown hP hK hN hl hret
  have hown : s.vm.findClass RX11 = some m.cls := hown
  have hl : lv_has ls 3 [(0, .ref mo), (1, .int num), (2, .int l_)] := hl
  refine lv_aload_n hx hb dX11_tenths_0 rfl (lv_at hl 0 rfl) ?_
  refine lv_iload_n hx hb dX11_tenths_1 rfl (lv_at hl 1 rfl) ?_
  refine vp_callSi (z_runV (b := mo) (As := [.int num]) (rest := []) hx hb hml hown hts hK hN hl.1 (c_X11_isPrince l D cI cB cP mo m_hard m_blows m_stripes m_kd m_wt m_boys m_learnt m_fond m_qp m_ql m_qr m_codes m_left m_row m_sv m_k_fond m_k_stripes m_k_learnt m_k_boys m_k_qp m_k_ql m_k_qr wI nM sS sF lM sN iK kS kP kH hh sch asks lessons limit np nh size num (by first | assumption | omega)) gX11_tenths_X11_isPrince rfl zd_X11_isPrince rfl (Nat.le_of_ble_eq_true rfl) (Nat.le_of_ble_eq_true rfl) (va_P.sub (ws' := [(mo, .inr (11, [.int sch, .int (nI lessons), .int (nI limit), .ref m_hard, .ref m_blows, .ref m_stripes, .int (nI np), .ref m_kd, .ref m_wt, .ref m_boys, .ref m_learnt, .ref m_fond, .int (nI nh), .ref m_qp, .ref m_ql, .ref m_qr, .int asks, .int (nI size), .ref m_codes, .int wI, .int nM, .int sS, .int sF, .ref m_left, .int lM, .ref m_row, .long sN, .ref m_sv, .int iK, .int kS, .int kP, .int kH, .ref m_k_fond, .ref m_k_stripes, .ref m_k_learnt, .ref m_k_boys, .ref m_k_qp, .ref m_k_ql, .ref m_k_qr, .long hh]))]) hP [0] rfl) (va_recv hK hP (ci := 11) (q0 := 0) rfl rfl) rfl (Nat.le_of_ble_eq_true rfl) dX11_tenths_2 ⟨Nat.zero_le _, Nat.zero_le _⟩) (fun r hr => ?_)
  rcases hr with ⟨rfl, c_1⟩ | ⟨rfl, c_1⟩
  · skip
    refine lv_if_eq (tgt := 25) hx hb dX11_tenths_5 (by decide) (fun c => absurd c (by decide)) (fun _ => ?_)
    refine lv_aload_n hx hb dX11_tenths_8 rfl (lv_at hl 0 rfl) ?_
    refine lv_iload_n hx hb dX11_tenths_9 rfl (lv_at hl 2 rfl) ?_
    refine vp_callSi (z_runV (b := mo) (As := [.int l_]) (rest := []) hx hb hml hown hts hK hN hl.1 (c_X11_isLesson l D cI cB cP mo m_hard m_blows m_stripes m_kd m_wt m_boys m_learnt m_fond m_qp m_ql m_qr m_codes m_left m_row m_sv m_k_fond m_k_stripes m_k_learnt m_k_boys m_k_qp m_k_ql m_k_qr wI nM sS sF lM sN iK kS kP kH hh sch asks lessons limit np nh size l_ (by first | assumption | omega)) gX11_tenths_X11_isLesson rfl zd_X11_isLesson rfl (Nat.le_of_ble_eq_true rfl) (Nat.le_of_ble_eq_true rfl) (va_P.sub (ws' := [(mo, .inr (11, [.int sch, .int (nI lessons), .int (nI limit), .ref m_hard, .ref m_blows, .ref m_stripes, .int (nI np), .ref m_kd, .ref m_wt, .ref m_boys, .ref m_learnt, .ref m_fond, .int (nI nh), .ref m_qp, .ref m_ql, .ref m_qr, .int asks, .int (nI size), .ref m_codes, .int wI, .int nM, .int sS, .int sF, .ref m_left, .int lM, .ref m_row, .long sN, .ref m_sv, .int iK, .int kS, .int kP, .int kH, .ref m_k_fond, .ref m_k_stripes, .ref m_k_learnt, .ref m_k_boys, .ref m_k_qp, .ref m_k_ql, .ref m_k_qr, .long hh]))]) hP [0] rfl) (va_recv hK hP (ci := 11) (q0 := 0) rfl rfl) rfl (Nat.le_of_ble_eq_true rfl) dX11_tenths_10 ⟨Nat.zero_le _, Nat.zero_le _⟩) (fun r hr => ?_)
    rcases hr with ⟨rfl, c_2⟩ | ⟨rfl, c_2⟩
    · skip
      refine lv_if_eq (tgt := 25) hx hb dX11_tenths_13 (by decide) (fun c => absurd c (by decide)) (fun _ => ?_)
      obtain ⟨pn, hp, rfl⟩ := z_natlt c_1.1 c_1.2 (by omega)
      obtain ⟨i, hi_, rfl⟩ := z_natlt c_2.1 c_2.2 (by omega)
      refine lv_aload_n hx hb dX11_tenths_16 rfl (lv_at hl 0 rfl) ?_
      refine lv_iload_n hx hb dX11_tenths_17 rfl (lv_at hl 1 rfl) ?_
      refine lv_iload_n hx hb dX11_tenths_18 rfl (lv_at hl 2 rfl) ?_
      refine vp_callSi (z_runV (b := mo) (As := [.int (nI pn), .int (nI i)]) (rest := []) hx hb hml hown hts hK hN hl.1 (c_X11_tenthsNow l D cI cB cP mo m_hard m_blows m_stripes m_kd m_wt m_boys m_learnt m_fond m_qp m_ql m_qr m_codes m_left m_row m_sv m_k_fond m_k_stripes m_k_learnt m_k_boys m_k_qp m_k_ql m_k_qr wI nM sS sF lM sN iK kS kP kH hh sch asks lessons limit np nh size hard kd wt boys fond pn i (by first | assumption | omega) (by first | assumption | omega) (by first | assumption | omega) (by first | assumption | omega) (by first | assumption | omega) (by first | assumption | omega) (by first | assumption | omega)) gX11_tenths_X11_tenthsNow rfl zd_X11_tenthsNow rfl (Nat.le_of_ble_eq_true rfl) (Nat.le_of_ble_eq_true rfl) (va_P.sub (ws' := [(mo, .inr (11, [.int sch, .int (nI lessons), .int (nI limit), .ref m_hard, .ref m_blows, .ref m_stripes, .int (nI np), .ref m_kd, .ref m_wt, .ref m_boys, .ref m_learnt, .ref m_fond, .int (nI nh), .ref m_qp, .ref m_ql, .ref m_qr, .int asks, .int (nI size), .ref m_codes, .int wI, .int nM, .int sS, .int sF, .ref m_left, .int lM, .ref m_row, .long sN, .ref m_sv, .int iK, .int kS, .int kP, .int kH, .ref m_k_fond, .ref m_k_stripes, .ref m_k_learnt, .ref m_k_boys, .ref m_k_qp, .ref m_k_ql, .ref m_k_qr, .long hh])), (m_hard, .inl (cI, 5, .inl (fun q_ => nI (hard q_)))), (m_kd, .inl (cI, 3, .inl (fun q_ => nI (kd q_)))), (m_wt, .inl (cI, 3, .inl (fun q_ => nI (wt q_)))), (m_boys, .inl (cI, 3, .inl (fun q_ => nI (boys q_)))), (m_fond, .inl (cI, 9, .inl (fun q_ => nI (fond q_))))]) hP [0, 1, 2, 3, 4, 5] rfl) (va_recv hK hP (ci := 11) (q0 := 0) rfl rfl) rfl (Nat.le_of_ble_eq_true rfl) dX11_tenths_19 ⟨Nat.zero_le _, Nat.zero_le _⟩) (fun r hr => ?_)
      subst hr
      refine lv_goto (tgt := 27) hx hb dX11_tenths_22 (by decide) ?_
      exact hret _ _ _ dX11_tenths_27 (by rw [zTenths, if_neg (fun h => h.elim (z_pn hp hnp) (z_l5 hi_ hls)), nI_clamp (by omega), nI_clamp (by omega)])
    · skip
      refine lv_if_eq (tgt := 25) hx hb dX11_tenths_13 (by decide) (fun _ => ?_) (fun c => absurd c (by decide))
      refine lv_bipush (v := (-101)) hx hb dX11_tenths_25 (by decide) ?_
      exact hret _ _ _ dX11_tenths_27 (by rw [zTenths, if_pos (Or.inr (z_nl c_2))])
  · skip
    refine lv_if_eq (tgt := 25) hx hb dX11_tenths_5 (by decide) (fun _ => ?_) (fun c => absurd c (by decide))
    refine lv_bipush (v := (-101)) hx hb dX11_tenths_25 (by decide) ?_
    exact hret _ _ _ dX11_tenths_27 (by rw [zTenths, if_pos (Or.inl (z_nl c_1))])

theorem zi_X11_learntAll_X11 : ∀ w ∈ wsX110, w ∈ wsX11_learntAll := fun _ h => List.mem_cons_of_mem _ (List.mem_append_right _ (h))
abbrev rm_X11_learntAll : Room := { frames := 1, cells := 0, slots := 0, locals := 22 }
set_option maxHeartbeats 4000000 in
set_option maxRecDepth 100000 in
theorem c_X11_learntAll (l : Launch) (D : va_G) (cI cB cP : ClassId) (mo : Nat) (m_hard : Nat) (m_blows : Nat) (m_stripes : Nat) (m_kd : Nat) (m_wt : Nat) (m_boys : Nat) (m_learnt : Nat) (m_fond : Nat) (m_qp : Nat) (m_ql : Nat) (m_qr : Nat) (m_codes : Nat) (m_left : Nat) (m_row : Nat) (m_sv : Nat) (m_k_fond : Nat) (m_k_stripes : Nat) (m_k_learnt : Nat) (m_k_boys : Nat) (m_k_qp : Nat) (m_k_ql : Nat) (m_k_qr : Nat) (wI : Int32) (nM : Int32) (sS : Int32) (sF : Int32) (lM : Int32) (sN : Int64) (iK : Int32) (kS : Int32) (kP : Int32) (kH : Int32) (hh : Int64) (sch : Int32) (asks : Int32) (lessons : Nat) (limit : Nat) (np : Nat) (nh : Nat) (size : Nat) (learnt : Nat → Nat) (hnp : np ≤ 3) (hle : ∀ i, learnt i < 32)  : zPi l D cI cB cP yX11_learntAll wsX11_learntAll rm_X11_learntAll [.ref mo] ([(mo, .inr (11, [.int sch, .int (nI lessons), .int (nI limit), .ref m_hard, .ref m_blows, .ref m_stripes, .int (nI np), .ref m_kd, .ref m_wt, .ref m_boys, .ref m_learnt, .ref m_fond, .int (nI nh), .ref m_qp, .ref m_ql, .ref m_qr, .int asks, .int (nI size), .ref m_codes, .int wI, .int nM, .int sS, .int sF, .ref m_left, .int lM, .ref m_row, .long sN, .ref m_sv, .int iK, .int kS, .int kP, .int kH, .ref m_k_fond, .ref m_k_stripes, .ref m_k_learnt, .ref m_k_boys, .ref m_k_qp, .ref m_k_ql, .ref m_k_qr, .long hh])), (m_learnt, .inl (cI, 3, .inl (fun q_ => nI (learnt q_))))]) (fun r => r = nI (zPops learnt np)) := by
  refine zPi_of (cc := cX11_learntAll) (maxL := 3) (by decide) rfl (Nat.le_of_ble_eq_true rfl) ?_
  intro p e s m args below meth c ls Q hx hb hml hts hown hP hK hN hl hret
  have hown : s.vm.findClass RX11 = some m.cls := hown
  have hl : lv_has ls 3 [(0, .ref mo)] := hl
  refine lv_iconst (v := 0) hx hb dX11_learntAll_0 (by decide) ?_
  refine lv_istore_n (lv' := [(1, .int 0), (0, .ref mo)]) hx hb dX11_learntAll_1 rfl hl (by decide) rfl (fun ls hl => ?_)
  refine lv_iconst (v := 0) hx hb dX11_learntAll_2 (by decide) ?_
  refine lv_istore_n (lv' := [(2, .int 0), (1, .int 0), (0, .ref mo)]) hx hb dX11_learntAll_3 rfl hl (by decide) rfl (fun ls hl => ?_)
  have loop_4 : ∀ (fu_4 : Nat) (y i : Nat), (i ≤ np) → (y = zPops learnt i) → np - i < fu_4 → ∀ (ls : Array Slot), lv_has ls 3 [(2, .int (nI i)), (1, .int (nI y)), (0, .ref mo)] → W p l e rm_X11_learntAll s m args below meth c s.heap [] 0 0 Q (F0 m 4 ls []) := by
    intro fu_4
    induction fu_4 with
    | zero => intro y i hi hy hn_4; exact absurd hn_4 (by omega)
    | succ fu_4 ih_4 =>
      intro y i hi hy hn_4 ls hl
      have hlei := hle i
      refine lv_iload_n hx hb dX11_learntAll_4 rfl (lv_at hl 0 rfl) ?_
      refine lv_aload_n hx hb dX11_learntAll_5 rfl (lv_at hl 2 rfl) ?_
      refine va_get (D := D) (ci := 11) (v := .int (nI np)) (C := RX11) (T := TX11) (N := 40) hx hb hts zi_X11_learntAll_X11 hown hK hP 0 rfl rfl 6 (by decide) (hts (.fieldLink RX11 116 "BeatenInsteadModel" "princes" "I") (List.mem_of_getElem? (i := 1) rfl)) (fun _ h9 => h9) rfl dX11_learntAll_6 ?_
      refine lv_icmp_ge (tgt := 30) hx hb dX11_learntAll_9 (by decide) (fun c_1 => ?_) (fun c_1 => ?_)
      · skip
        have c_1 : np ≤ i := (nI_leI (a := np) (b := i) (by omega) (by omega)).mp c_1
        refine lv_iload_n hx hb dX11_learntAll_30 rfl (lv_at hl 1 rfl) ?_
        exact hret _ _ _ dX11_learntAll_31 (by rw [hy, show i = np by omega])
      · skip
        have c_1 : ¬ (np ≤ i) := (not_congr (nI_leI (a := np) (b := i) (by omega) (by omega))).mp c_1
        refine lv_iload_n hx hb dX11_learntAll_12 rfl (lv_at hl 1 rfl) ?_
        refine lv_aload_n hx hb dX11_learntAll_13 rfl (lv_at hl 2 rfl) ?_
        refine va_get (D := D) (ci := 11) (v := .ref m_learnt) (C := RX11) (T := TX11) (N := 40) hx hb hts zi_X11_learntAll_X11 hown hK hP 0 rfl rfl 10 (by decide) (hts (.fieldLink RX11 28 "BeatenInsteadModel" "learntOf" "[I") (List.mem_of_getElem? (i := 2) rfl)) (fun _ h9 => h9) rfl dX11_learntAll_14 ?_
        refine lv_iload_n hx hb dX11_learntAll_17 rfl (lv_at hl 0 rfl) ?_
        refine va_iald hx hb hK hP 1 0 rfl rfl (vp_in_nI (by omega) (by omega)) dX11_learntAll_18 ?_
        refine z_top (y := nI (learnt i)) (z_ld (f := fun q_ => nI (learnt q_)) (a := i) (by omega) rfl) ?_
        refine vp_callSi (z_runS (As := [.int (nI (learnt i))]) (rest := [.int (nI y)]) hx hb hml hown hts hK hN hl.1 (c_X11_size l D cI cB cP (learnt i) (by first | assumption | omega)) gX11_learntAll_X11_size rfl zd_X11_size rfl (Nat.le_of_ble_eq_true rfl) (Nat.le_of_ble_eq_true rfl) z_p0 rfl (Nat.le_of_ble_eq_true rfl) dX11_learntAll_19 ⟨Nat.zero_le _, Nat.zero_le _⟩) (fun r hr => ?_)
        subst hr
        refine lv_iadd hx hb dX11_learntAll_22 ?_
        refine z_top (show ((nI y) + (nI (zPop (learnt i)))) = nI (y + zPop (learnt i)) from nI_add y (zPop (learnt i))) ?_
        refine lv_istore_n (lv' := [(1, .int (nI (y + zPop (learnt i)))), (2, .int (nI i)), (0, .ref mo)]) hx hb dX11_learntAll_23 rfl hl (by decide) rfl (fun ls hl => ?_)
        refine lv_iinc (v := nI (i + 1)) (lv' := [(2, .int (nI (i + 1))), (1, .int (nI (y + zPop (learnt i)))), (0, .ref mo)]) hx hb dX11_learntAll_24 hl (k := 1) rfl (nI_add (i) 1) (by decide) rfl (fun ls hl => ?_)
        refine lv_goto (tgt := 4) hx hb dX11_learntAll_27 (by decide) ?_
        exact ih_4 (y + zPop (learnt i)) (i + 1) (by omega) (by rw [zPops, hy]) (by omega) ls hl
  exact loop_4 _ 0 0 (Nat.zero_le _) (rfl) (Nat.lt_succ_self _) ls hl

theorem zi_X11_stripesAll_X11 : ∀ w ∈ wsX110, w ∈ wsX11_stripesAll := fun _ h => List.mem_cons_of_mem _ (List.mem_append_right _ (h))
abbrev rm_X11_stripesAll : Room := { frames := 0, cells := 0, slots := 0, locals := 0 }
set_option maxHeartbeats 4000000 in
set_option maxRecDepth 100000 in
theorem c_X11_stripesAll (l : Launch) (D : va_G) (cI cB cP : ClassId) (mo : Nat) (m_hard : Nat) (m_blows : Nat) (m_stripes : Nat) (m_kd : Nat) (m_wt : Nat) (m_boys : Nat) (m_learnt : Nat) (m_fond : Nat) (m_qp : Nat) (m_ql : Nat) (m_qr : Nat) (m_codes : Nat) (m_left : Nat) (m_row : Nat) (m_sv : Nat) (m_k_fond : Nat) (m_k_stripes : Nat) (m_k_learnt : Nat) (m_k_boys : Nat) (m_k_qp : Nat) (m_k_ql : Nat) (m_k_qr : Nat) (wI : Int32) (nM : Int32) (sS : Int32) (sF : Int32) (lM : Int32) (sN : Int64) (iK : Int32) (kS : Int32) (kP : Int32) (kH : Int32) (hh : Int64) (sch : Int32) (asks : Int32) (lessons : Nat) (limit : Nat) (np : Nat) (nh : Nat) (size : Nat) (stripes : Nat → Int32)   : zPi l D cI cB cP yX11_stripesAll wsX11_stripesAll rm_X11_stripesAll [.ref mo] ([(mo, .inr (11, [.int sch, .int (nI lessons), .int (nI limit), .ref m_hard, .ref m_blows, .ref m_stripes, .int (nI np), .ref m_kd, .ref m_wt, .ref m_boys, .ref m_learnt, .ref m_fond, .int (nI nh), .ref m_qp, .ref m_ql, .ref m_qr, .int asks, .int (nI size), .ref m_codes, .int wI, .int nM, .int sS, .int sF, .ref m_left, .int lM, .ref m_row, .long sN, .ref m_sv, .int iK, .int kS, .int kP, .int kH, .ref m_k_fond, .ref m_k_stripes, .ref m_k_learnt, .ref m_k_boys, .ref m_k_qp, .ref m_k_ql, .ref m_k_qr, .long hh])), (m_stripes, .inl (cI, 3, .inl (stripes)))]) (fun r => r = zSum stripes 3) := by
  refine zPi_of (cc := cX11_stripesAll) (maxL := 1) (by decide) rfl (Nat.le_of_ble_eq_true rfl) ?_
  intro p e s m args below meth c ls Q hx hb hml hts hown hP hK hN hl hret
  have hown : s.vm.findClass RX11 = some m.cls := hown
  have hl : lv_has ls 1 [(0, .ref mo)] := hl
  refine lv_aload_n hx hb dX11_stripesAll_0 rfl (lv_at hl 0 rfl) ?_
  refine va_get (D := D) (ci := 11) (v := .ref m_stripes) (C := RX11) (T := TX11) (N := 40) hx hb hts zi_X11_stripesAll_X11 hown hK hP 0 rfl rfl 5 (by decide) (hts (.fieldLink RX11 16 "BeatenInsteadModel" "stripesOf" "[I") (List.mem_of_getElem? (i := 1) rfl)) (fun _ h9 => h9) rfl dX11_stripesAll_1 ?_
  refine lv_iconst (v := 0) hx hb dX11_stripesAll_4 (by decide) ?_
  refine va_iald hx hb hK hP 1 0 rfl rfl ((show vp_in (nI 0) 3 from vp_in_nI (by omega) (by omega))) dX11_stripesAll_5 ?_
  refine z_top (y := stripes 0) (z_ld (f := stripes) (a := 0) (by omega) rfl) ?_
  refine lv_aload_n hx hb dX11_stripesAll_6 rfl (lv_at hl 0 rfl) ?_
  refine va_get (D := D) (ci := 11) (v := .ref m_stripes) (C := RX11) (T := TX11) (N := 40) hx hb hts zi_X11_stripesAll_X11 hown hK hP 0 rfl rfl 5 (by decide) (hts (.fieldLink RX11 16 "BeatenInsteadModel" "stripesOf" "[I") (List.mem_of_getElem? (i := 1) rfl)) (fun _ h9 => h9) rfl dX11_stripesAll_7 ?_
  refine lv_iconst (v := 1) hx hb dX11_stripesAll_10 (by decide) ?_
  refine va_iald hx hb hK hP 1 0 rfl rfl ((show vp_in (nI 1) 3 from vp_in_nI (by omega) (by omega))) dX11_stripesAll_11 ?_
  refine z_top (y := stripes 1) (z_ld (f := stripes) (a := 1) (by omega) rfl) ?_
  refine lv_iadd hx hb dX11_stripesAll_12 ?_
  refine lv_aload_n hx hb dX11_stripesAll_13 rfl (lv_at hl 0 rfl) ?_
  refine va_get (D := D) (ci := 11) (v := .ref m_stripes) (C := RX11) (T := TX11) (N := 40) hx hb hts zi_X11_stripesAll_X11 hown hK hP 0 rfl rfl 5 (by decide) (hts (.fieldLink RX11 16 "BeatenInsteadModel" "stripesOf" "[I") (List.mem_of_getElem? (i := 1) rfl)) (fun _ h9 => h9) rfl dX11_stripesAll_14 ?_
  refine lv_iconst (v := 2) hx hb dX11_stripesAll_17 (by decide) ?_
  refine va_iald hx hb hK hP 1 0 rfl rfl ((show vp_in (nI 2) 3 from vp_in_nI (by omega) (by omega))) dX11_stripesAll_18 ?_
  refine z_top (y := stripes 2) (z_ld (f := stripes) (a := 2) (by omega) rfl) ?_
  refine lv_iadd hx hb dX11_stripesAll_19 ?_
  exact hret _ _ _ dX11_stripesAll_20 (by simp [zSum])

theorem zi_X11_howMany_X11 : ∀ w ∈ wsX110, w ∈ wsX11_howMany := fun _ h => List.mem_cons_of_mem _ (List.mem_append_right _ (h))
abbrev rm_X11_howMany : Room := { frames := 2, cells := 0, slots := 0, locals := 44 }
set_option maxHeartbeats 4000000 in
set_option maxRecDepth 100000 in
theorem c_X11_howMany (l : Launch) (D : va_G) (cI cB cP : ClassId) (mo : Nat) (m_hard : Nat) (m_blows : Nat) (m_stripes : Nat) (m_kd : Nat) (m_wt : Nat) (m_boys : Nat) (m_learnt : Nat) (m_fond : Nat) (m_qp : Nat) (m_ql : Nat) (m_qr : Nat) (m_codes : Nat) (m_left : Nat) (m_row : Nat) (m_sv : Nat) (m_k_fond : Nat) (m_k_stripes : Nat) (m_k_learnt : Nat) (m_k_boys : Nat) (m_k_qp : Nat) (m_k_ql : Nat) (m_k_qr : Nat) (wI : Int32) (nM : Int32) (sS : Int32) (sF : Int32) (lM : Int32) (sN : Int64) (iK : Int32) (kS : Int32) (kP : Int32) (kH : Int32) (hh : Int64) (sch : Int32) (asks : Int32) (lessons : Nat) (limit : Nat) (np : Nat) (nh : Nat) (size : Nat) (stripes : Nat → Int32) (learnt : Nat → Nat) (w : Int32) (hnp : np ≤ 3) (hle : ∀ i, learnt i < 32)  : zPi l D cI cB cP yX11_howMany wsX11_howMany rm_X11_howMany [.ref mo, .int w] ([(mo, .inr (11, [.int sch, .int (nI lessons), .int (nI limit), .ref m_hard, .ref m_blows, .ref m_stripes, .int (nI np), .ref m_kd, .ref m_wt, .ref m_boys, .ref m_learnt, .ref m_fond, .int (nI nh), .ref m_qp, .ref m_ql, .ref m_qr, .int asks, .int (nI size), .ref m_codes, .int wI, .int nM, .int sS, .int sF, .ref m_left, .int lM, .ref m_row, .long sN, .ref m_sv, .int iK, .int kS, .int kP, .int kH, .ref m_k_fond, .ref m_k_stripes, .ref m_k_learnt, .ref m_k_boys, .ref m_k_qp, .ref m_k_ql, .ref m_k_qr, .long hh])), (m_stripes, .inl (cI, 3, .inl (stripes))), (m_learnt, .inl (cI, 3, .inl (fun q_ => nI (learnt q_))))]) (fun r => r = zCountM lessons limit np stripes learnt nh size sch asks w) := by
  refine zPi_of (cc := cX11_howMany) (maxL := 2) (by decide) rfl (Nat.le_of_ble_eq_true rfl) ?_
  intro p e s m args below meth c ls Q hx hb hml hts hown hP hK hN hl hret
  have hown : s.vm.findClass RX11 = some m.cls := hown
  have hl : lv_has ls 2 [(0, .ref mo), (1, .int w)] := hl
  refine lv_iload_n hx hb dX11_howMany_0 rfl (lv_at hl 1 rfl) ?_
  by_cases w_0 : w = 0
  · subst w_0
    refine lv_tableIn (tgt := 52) (off := 51) hx hb dX11_howMany_1 (by decide +kernel) (by decide +kernel) (by decide +kernel) (by decide) ?_
    refine lv_aload_n hx hb dX11_howMany_52 rfl (lv_at hl 0 rfl) ?_
    refine va_get (D := D) (ci := 11) (v := .int (nI lessons)) (C := RX11) (T := TX11) (N := 40) hx hb hts zi_X11_howMany_X11 hown hK hP 0 rfl rfl 1 (by decide) (hts (.fieldLink RX11 107 "BeatenInsteadModel" "lessons" "I") (List.mem_of_getElem? (i := 1) rfl)) (fun _ h9 => h9) rfl dX11_howMany_53 ?_
    exact hret _ _ _ dX11_howMany_56 rfl
  by_cases w_1 : w = 1
  · subst w_1
    refine lv_tableIn (tgt := 57) (off := 56) hx hb dX11_howMany_1 (by decide +kernel) (by decide +kernel) (by decide +kernel) (by decide) ?_
    refine lv_aload_n hx hb dX11_howMany_57 rfl (lv_at hl 0 rfl) ?_
    refine va_get (D := D) (ci := 11) (v := .int (nI limit)) (C := RX11) (T := TX11) (N := 40) hx hb hts zi_X11_howMany_X11 hown hK hP 0 rfl rfl 2 (by decide) (hts (.fieldLink RX11 110 "BeatenInsteadModel" "limit" "I") (List.mem_of_getElem? (i := 2) rfl)) (fun _ h9 => h9) rfl dX11_howMany_58 ?_
    exact hret _ _ _ dX11_howMany_61 rfl
  by_cases w_2 : w = 2
  · subst w_2
    refine lv_tableIn (tgt := 62) (off := 61) hx hb dX11_howMany_1 (by decide +kernel) (by decide +kernel) (by decide +kernel) (by decide) ?_
    refine lv_aload_n hx hb dX11_howMany_62 rfl (lv_at hl 0 rfl) ?_
    refine va_get (D := D) (ci := 11) (v := .int (nI np)) (C := RX11) (T := TX11) (N := 40) hx hb hts zi_X11_howMany_X11 hown hK hP 0 rfl rfl 6 (by decide) (hts (.fieldLink RX11 116 "BeatenInsteadModel" "princes" "I") (List.mem_of_getElem? (i := 3) rfl)) (fun _ h9 => h9) rfl dX11_howMany_63 ?_
    exact hret _ _ _ dX11_howMany_66 rfl
  by_cases w_3 : w = 3
  · subst w_3
    refine lv_tableIn (tgt := 67) (off := 66) hx hb dX11_howMany_1 (by decide +kernel) (by decide +kernel) (by decide +kernel) (by decide) ?_
    refine lv_aload_n hx hb dX11_howMany_67 rfl (lv_at hl 0 rfl) ?_
    refine vp_callSi (z_runV (b := mo) (As := []) (rest := []) hx hb hml hown hts hK hN hl.1 (c_X11_stripesAll l D cI cB cP mo m_hard m_blows m_stripes m_kd m_wt m_boys m_learnt m_fond m_qp m_ql m_qr m_codes m_left m_row m_sv m_k_fond m_k_stripes m_k_learnt m_k_boys m_k_qp m_k_ql m_k_qr wI nM sS sF lM sN iK kS kP kH hh sch asks lessons limit np nh size stripes) gX11_howMany_X11_stripesAll rfl zd_X11_stripesAll rfl (Nat.le_of_ble_eq_true rfl) (Nat.le_of_ble_eq_true rfl) (va_P.sub (ws' := [(mo, .inr (11, [.int sch, .int (nI lessons), .int (nI limit), .ref m_hard, .ref m_blows, .ref m_stripes, .int (nI np), .ref m_kd, .ref m_wt, .ref m_boys, .ref m_learnt, .ref m_fond, .int (nI nh), .ref m_qp, .ref m_ql, .ref m_qr, .int asks, .int (nI size), .ref m_codes, .int wI, .int nM, .int sS, .int sF, .ref m_left, .int lM, .ref m_row, .long sN, .ref m_sv, .int iK, .int kS, .int kP, .int kH, .ref m_k_fond, .ref m_k_stripes, .ref m_k_learnt, .ref m_k_boys, .ref m_k_qp, .ref m_k_ql, .ref m_k_qr, .long hh])), (m_stripes, .inl (cI, 3, .inl (stripes)))]) hP [0, 1] rfl) (va_recv hK hP (ci := 11) (q0 := 0) rfl rfl) rfl (Nat.le_of_ble_eq_true rfl) dX11_howMany_68 ⟨Nat.zero_le _, Nat.zero_le _⟩) (fun r hr => ?_)
    subst hr
    exact hret _ _ _ dX11_howMany_71 rfl
  by_cases w_4 : w = 4
  · subst w_4
    refine lv_tableIn (tgt := 72) (off := 71) hx hb dX11_howMany_1 (by decide +kernel) (by decide +kernel) (by decide +kernel) (by decide) ?_
    refine lv_aload_n hx hb dX11_howMany_72 rfl (lv_at hl 0 rfl) ?_
    refine vp_callSi (z_runV (b := mo) (As := []) (rest := []) hx hb hml hown hts hK hN hl.1 (c_X11_learntAll l D cI cB cP mo m_hard m_blows m_stripes m_kd m_wt m_boys m_learnt m_fond m_qp m_ql m_qr m_codes m_left m_row m_sv m_k_fond m_k_stripes m_k_learnt m_k_boys m_k_qp m_k_ql m_k_qr wI nM sS sF lM sN iK kS kP kH hh sch asks lessons limit np nh size learnt (by first | assumption | omega) (by first | assumption | omega)) gX11_howMany_X11_learntAll rfl zd_X11_learntAll rfl (Nat.le_of_ble_eq_true rfl) (Nat.le_of_ble_eq_true rfl) (va_P.sub (ws' := [(mo, .inr (11, [.int sch, .int (nI lessons), .int (nI limit), .ref m_hard, .ref m_blows, .ref m_stripes, .int (nI np), .ref m_kd, .ref m_wt, .ref m_boys, .ref m_learnt, .ref m_fond, .int (nI nh), .ref m_qp, .ref m_ql, .ref m_qr, .int asks, .int (nI size), .ref m_codes, .int wI, .int nM, .int sS, .int sF, .ref m_left, .int lM, .ref m_row, .long sN, .ref m_sv, .int iK, .int kS, .int kP, .int kH, .ref m_k_fond, .ref m_k_stripes, .ref m_k_learnt, .ref m_k_boys, .ref m_k_qp, .ref m_k_ql, .ref m_k_qr, .long hh])), (m_learnt, .inl (cI, 3, .inl (fun q_ => nI (learnt q_))))]) hP [0, 2] rfl) (va_recv hK hP (ci := 11) (q0 := 0) rfl rfl) rfl (Nat.le_of_ble_eq_true rfl) dX11_howMany_73 ⟨Nat.zero_le _, Nat.zero_le _⟩) (fun r hr => ?_)
    subst hr
    exact hret _ _ _ dX11_howMany_76 rfl
  by_cases w_5 : w = 5
  · subst w_5
    refine lv_tableIn (tgt := 77) (off := 76) hx hb dX11_howMany_1 (by decide +kernel) (by decide +kernel) (by decide +kernel) (by decide) ?_
    refine lv_aload_n hx hb dX11_howMany_77 rfl (lv_at hl 0 rfl) ?_
    refine va_get (D := D) (ci := 11) (v := .int (nI nh)) (C := RX11) (T := TX11) (N := 40) hx hb hts zi_X11_howMany_X11 hown hK hP 0 rfl rfl 12 (by decide) (hts (.fieldLink RX11 119 "BeatenInsteadModel" "heard" "I") (List.mem_of_getElem? (i := 4) rfl)) (fun _ h9 => h9) rfl dX11_howMany_78 ?_
    exact hret _ _ _ dX11_howMany_81 rfl
  by_cases w_6 : w = 6
  · subst w_6
    refine lv_tableIn (tgt := 82) (off := 81) hx hb dX11_howMany_1 (by decide +kernel) (by decide +kernel) (by decide +kernel) (by decide) ?_
    refine lv_aload_n hx hb dX11_howMany_82 rfl (lv_at hl 0 rfl) ?_
    refine va_get (D := D) (ci := 11) (v := .int (nI size)) (C := RX11) (T := TX11) (N := 40) hx hb hts zi_X11_howMany_X11 hown hK hP 0 rfl rfl 17 (by decide) (hts (.fieldLink RX11 81 "BeatenInsteadModel" "pageLength" "I") (List.mem_of_getElem? (i := 5) rfl)) (fun _ h9 => h9) rfl dX11_howMany_83 ?_
    exact hret _ _ _ dX11_howMany_86 rfl
  by_cases w_7 : w = 7
  · subst w_7
    refine lv_tableIn (tgt := 87) (off := 86) hx hb dX11_howMany_1 (by decide +kernel) (by decide +kernel) (by decide +kernel) (by decide) ?_
    refine lv_aload_n hx hb dX11_howMany_87 rfl (lv_at hl 0 rfl) ?_
    refine va_get (D := D) (ci := 11) (v := .int sch) (C := RX11) (T := TX11) (N := 40) hx hb hts zi_X11_howMany_X11 hown hK hP 0 rfl rfl 0 (by decide) (hts (.fieldLink RX11 113 "BeatenInsteadModel" "schools" "I") (List.mem_of_getElem? (i := 6) rfl)) (fun _ h9 => h9) rfl dX11_howMany_88 ?_
    exact hret _ _ _ dX11_howMany_91 rfl
  by_cases w_8 : w = 8
  · subst w_8
    refine lv_tableIn (tgt := 92) (off := 91) hx hb dX11_howMany_1 (by decide +kernel) (by decide +kernel) (by decide +kernel) (by decide) ?_
    refine lv_aload_n hx hb dX11_howMany_92 rfl (lv_at hl 0 rfl) ?_
    refine va_get (D := D) (ci := 11) (v := .int asks) (C := RX11) (T := TX11) (N := 40) hx hb hts zi_X11_howMany_X11 hown hK hP 0 rfl rfl 16 (by decide) (hts (.fieldLink RX11 204 "BeatenInsteadModel" "asks" "I") (List.mem_of_getElem? (i := 7) rfl)) (fun _ h9 => h9) rfl dX11_howMany_93 ?_
    exact hret _ _ _ dX11_howMany_96 rfl
  refine lv_tableOut (tgt := 97) hx hb dX11_howMany_1 (by have e0 := z_ne (k := 0) w_0 (by omega); have e1 := z_ne (k := 1) w_1 (by omega); have e2 := z_ne (k := 2) w_2 (by omega); have e3 := z_ne (k := 3) w_3 (by omega); have e4 := z_ne (k := 4) w_4 (by omega); have e5 := z_ne (k := 5) w_5 (by omega); have e6 := z_ne (k := 6) w_6 (by omega); have e7 := z_ne (k := 7) w_7 (by omega); have e8 := z_ne (k := 8) w_8 (by omega); omega) (by decide) ?_
  refine lv_bipush (v := (-102)) hx hb dX11_howMany_97 (by decide) ?_
  exact hret _ _ _ dX11_howMany_99 (by simp [zCountM, w_0, w_1, w_2, w_3, w_4, w_5, w_6, w_7, w_8])

abbrev rm_X11_count : Room := { frames := 3, cells := 0, slots := 0, locals := 65 }
set_option maxHeartbeats 4000000 in
set_option maxRecDepth 100000 in
theorem c_X11_count (l : Launch) (D : va_G) (cI cB cP : ClassId) (mo : Nat) (m_hard : Nat) (m_blows : Nat) (m_stripes : Nat) (m_kd : Nat) (m_wt : Nat) (m_boys : Nat) (m_learnt : Nat) (m_fond : Nat) (m_qp : Nat) (m_ql : Nat) (m_qr : Nat) (m_codes : Nat) (m_left : Nat) (m_row : Nat) (m_sv : Nat) (m_k_fond : Nat) (m_k_stripes : Nat) (m_k_learnt : Nat) (m_k_boys : Nat) (m_k_qp : Nat) (m_k_ql : Nat) (m_k_qr : Nat) (wI : Int32) (nM : Int32) (sS : Int32) (sF : Int32) (lM : Int32) (sN : Int64) (iK : Int32) (kS : Int32) (kP : Int32) (kH : Int32) (hh : Int64) (sch : Int32) (asks : Int32) (lessons : Nat) (limit : Nat) (np : Nat) (nh : Nat) (size : Nat) (stripes : Nat → Int32) (learnt : Nat → Nat) (w : Int32) (hnp : np ≤ 3) (hle : ∀ i, learnt i < 32)  : zPi l D cI cB cP yX11_count wsX11_count rm_X11_count [.ref mo, .int w] ([(mo, .inr (11, [.int sch, .int (nI lessons), .int (nI limit), .ref m_hard, .ref m_blows, .ref m_stripes, .int (nI np), .ref m_kd, .ref m_wt, .ref m_boys, .ref m_learnt, .ref m_fond, .int (nI nh), .ref m_qp, .ref m_ql, .ref m_qr, .int asks, .int (nI size), .ref m_codes, .int wI, .int nM, .int sS, .int sF, .ref m_left, .int lM, .ref m_row, .long sN, .ref m_sv, .int iK, .int kS, .int kP, .int kH, .ref m_k_fond, .ref m_k_stripes, .ref m_k_learnt, .ref m_k_boys, .ref m_k_qp, .ref m_k_ql, .ref m_k_qr, .long hh])), (m_stripes, .inl (cI, 3, .inl (stripes))), (m_learnt, .inl (cI, 3, .inl (fun q_ => nI (learnt q_))))]) (fun r => r = zCountM lessons limit np stripes learnt nh size sch asks w) := by
  refine zPi_of (cc := cX11_count) (maxL := 2) (by decide) rfl (Nat.le_of_ble_eq_true rfl) ?_
  intro p e s m args below meth c ls Q hx hb hml hts hown hP hK hN hl hret
  have hown : s.vm.findClass RX11 = some m.cls := hown
  have hl : lv_has ls 2 [(0, .ref mo), (1, .int w)] := hl
  refine lv_aload_n hx hb dX11_count_0 rfl (lv_at hl 0 rfl) ?_
  refine lv_iload_n hx hb dX11_count_1 rfl (lv_at hl 1 rfl) ?_
  refine vp_callSi (z_runV (b := mo) (As := [.int w]) (rest := []) hx hb hml hown hts hK hN hl.1 (c_X11_howMany l D cI cB cP mo m_hard m_blows m_stripes m_kd m_wt m_boys m_learnt m_fond m_qp m_ql m_qr m_codes m_left m_row m_sv m_k_fond m_k_stripes m_k_learnt m_k_boys m_k_qp m_k_ql m_k_qr wI nM sS sF lM sN iK kS kP kH hh sch asks lessons limit np nh size stripes learnt w (by first | assumption | omega) (by first | assumption | omega)) gX11_count_X11_howMany rfl zd_X11_howMany rfl (Nat.le_of_ble_eq_true rfl) (Nat.le_of_ble_eq_true rfl) (va_P.sub (ws' := [(mo, .inr (11, [.int sch, .int (nI lessons), .int (nI limit), .ref m_hard, .ref m_blows, .ref m_stripes, .int (nI np), .ref m_kd, .ref m_wt, .ref m_boys, .ref m_learnt, .ref m_fond, .int (nI nh), .ref m_qp, .ref m_ql, .ref m_qr, .int asks, .int (nI size), .ref m_codes, .int wI, .int nM, .int sS, .int sF, .ref m_left, .int lM, .ref m_row, .long sN, .ref m_sv, .int iK, .int kS, .int kP, .int kH, .ref m_k_fond, .ref m_k_stripes, .ref m_k_learnt, .ref m_k_boys, .ref m_k_qp, .ref m_k_ql, .ref m_k_qr, .long hh])), (m_stripes, .inl (cI, 3, .inl (stripes))), (m_learnt, .inl (cI, 3, .inl (fun q_ => nI (learnt q_))))]) hP [0, 1, 2] rfl) (va_recv hK hP (ci := 11) (q0 := 0) rfl rfl) rfl (Nat.le_of_ble_eq_true rfl) dX11_count_2 ⟨Nat.zero_le _, Nat.zero_le _⟩) (fun r hr => ?_)
  subst hr
  exact hret _ _ _ dX11_count_5 rfl
