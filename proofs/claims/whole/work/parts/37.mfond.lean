def zAb (b : Bool) : Nat := if b = true then 1 else 0
theorem zAb_le (b : Bool) : zAb b ≤ 1 := by cases b <;> decide
theorem zAb_0 {b : Bool} (h : zAb b = 0) : b = false := by cases b; rfl; cases h
theorem zAb_1 {b : Bool} (h : zAb b = 1) : b = true := by cases b; cases h; rfl
theorem zAb_can {t g v : Nat} (h : (v = 1 ∧ ((g = 0 ∧ t < 10) ∨ (g ≠ 0 ∧ 0 < t))) ∨ (v = 0 ∧ ¬ ((g = 0 ∧ t < 10) ∨ (g ≠ 0 ∧ 0 < t)))) : v = zAb (true && zCanB t g) := by
  rw [Bool.true_and]
  rcases h with ⟨h1, h2⟩ | ⟨h1, h2⟩
  · rw [zCanB_iff.mpr h2, h1]; rfl
  · rw [h1, Bool.eq_false_iff.mpr (fun q => h2 (zCanB_iff.mp q))]; rfl
theorem z_dec {k : Nat} (h : 1 ≤ k) : nI k + (-1) = nI (k - 1) := by
  have e := pk_sub (a := k) (b := 1) h
  rw [← e, Int32.sub_eq_add_neg]; rfl
/-- a prince's boy by a code of BOYS to a place -/
def zDg (np code p : Nat) : Nat := code / 3 ^ (np - 1 - p) % 3
def zMb (dg : Nat → Nat) (cost : Nat → Nat → Nat) : Nat → Nat → Nat → Nat → Nat
  | 0, _, _, all => all
  | d + 1, p, used, all => if used / 2 ^ dg p % 2 = 1 then 268435456 else zMb dg cost d (p + 1) (used ||| 2 ^ dg p) (all + cost p (dg p))
def zMc (kd wt fond hard blows : Nat → Nat) (l : Nat) (p b : Nat) : Nat := (10 - zTen (wt p) (kd p) (fond (p * 3 + b)) (hard l)) * blows l
theorem zMc_le {kd wt fond hard blows : Nat → Nat} {l p b : Nat} (h : blows l ≤ 9) : zMc kd wt fond hard blows l p b ≤ 90 := Nat.mul_le_mul (Nat.sub_le _ _) h
theorem zi_X11_couldBe_X11 : ∀ w ∈ wsX110, w ∈ wsX11_couldBe := fun _ h => List.mem_cons_of_mem _ (List.mem_append_right _ (h))
abbrev rm_X11_couldBe : Room := { frames := 2, cells := 0, slots := 0, locals := 46 }
set_option maxHeartbeats 4000000 in
set_option maxRecDepth 100000 in
theorem c_X11_couldBe (l : Launch) (D : va_G) (cI cB cP : ClassId) (mo : Nat) (m_hard : Nat) (m_blows : Nat) (m_stripes : Nat) (m_kd : Nat) (m_wt : Nat) (m_boys : Nat) (m_learnt : Nat) (m_fond : Nat) (m_qp : Nat) (m_ql : Nat) (m_qr : Nat) (m_codes : Nat) (m_left : Nat) (m_row : Nat) (m_sv : Nat) (m_k_fond : Nat) (m_k_stripes : Nat) (m_k_learnt : Nat) (m_k_boys : Nat) (m_k_qp : Nat) (m_k_ql : Nat) (m_k_qr : Nat) (wI : Int32) (nM : Int32) (sS : Int32) (sF : Int32) (lM : Int32) (sN : Int64) (iK : Int32) (kS : Int32) (kP : Int32) (kH : Int32) (hh : Int64) (sch : Int32) (asks : Int32) (lessons : Nat) (limit : Nat) (np : Nat) (nh : Nat) (size : Nat) (hard : Nat → Nat) (kd : Nat → Nat) (wt : Nat → Nat) (qp : Nat → Nat) (ql : Nat → Nat) (qr : Nat → Nat) (p_ : Nat) (f : Nat) (hnh : nh ≤ 6) (hkd : ∀ i, kd i < 5) (hwt : ∀ i, wt i ≤ 9) (hha : ∀ i, hard i ≤ 9) (hql : ∀ i, ql i < 5) (hqr : ∀ i, qr i < 2) (hqp : ∀ i, qp i < 3) (hp_ : p_ < 3) (hf : f ≤ 9)  : zPi l D cI cB cP yX11_couldBe wsX11_couldBe rm_X11_couldBe [.ref mo, .int (nI p_), .int (nI f)] ([(mo, .inr (11, [.int sch, .int (nI lessons), .int (nI limit), .ref m_hard, .ref m_blows, .ref m_stripes, .int (nI np), .ref m_kd, .ref m_wt, .ref m_boys, .ref m_learnt, .ref m_fond, .int (nI nh), .ref m_qp, .ref m_ql, .ref m_qr, .int asks, .int (nI size), .ref m_codes, .int wI, .int nM, .int sS, .int sF, .ref m_left, .int lM, .ref m_row, .long sN, .ref m_sv, .int iK, .int kS, .int kP, .int kH, .ref m_k_fond, .ref m_k_stripes, .ref m_k_learnt, .ref m_k_boys, .ref m_k_qp, .ref m_k_ql, .ref m_k_qr, .long hh])), (m_hard, .inl (cI, 5, .inl (fun q_ => nI (hard q_)))), (m_kd, .inl (cI, 3, .inl (fun q_ => nI (kd q_)))), (m_wt, .inl (cI, 3, .inl (fun q_ => nI (wt q_)))), (m_qp, .inl (cI, 6, .inl (fun q_ => nI (qp q_)))), (m_ql, .inl (cI, 6, .inl (fun q_ => nI (ql q_)))), (m_qr, .inl (cI, 6, .inl (fun q_ => nI (qr q_))))]) (fun r => zB (zAg qp ql qr hard (wt p_) (kd p_) p_ f nh = true) r) := by
  refine zPz_of (cc := cX11_couldBe) (maxL := 6) (by decide) rfl (Nat.le_of_ble_eq_true rfl) ?_
  intro p e s m args below meth c ls Q hx hb hml hts hown hP hK hN hl hret
  have hown : s.vm.findClass RX11 = some m.cls := hown
  have hl : lv_has ls 6 [(0, .ref mo), (1, .int (nI p_)), (2, .int (nI f))] := hl
  refine lv_iconst (v := 1) hx hb dX11_couldBe_0 (by decide) ?_
  refine lv_istore_n (lv' := [(3, .int 1), (0, .ref mo), (1, .int (nI p_)), (2, .int (nI f))]) hx hb dX11_couldBe_1 rfl hl (by decide) rfl (fun ls hl => ?_)
  refine lv_iconst (v := 0) hx hb dX11_couldBe_2 (by decide) ?_
  refine lv_istore (lv' := [(4, .int 0), (3, .int 1), (0, .ref mo), (1, .int (nI p_)), (2, .int (nI f))]) hx hb dX11_couldBe_3 hl (by decide) rfl (fun ls hl => ?_)
  have loop_5 : ∀ (fu_5 : Nat) (g i : Nat), (i ≤ nh) → (g = zAb (zAg qp ql qr hard (wt p_) (kd p_) p_ f i)) → nh - i < fu_5 → ∀ (ls : Array Slot), lv_has ls 6 [(4, .int (nI i)), (3, .int (nI g)), (0, .ref mo), (1, .int (nI p_)), (2, .int (nI f))] → W p l e rm_X11_couldBe s m args below meth c s.heap [] 0 0 Q (F0 m 5 ls []) := by
    intro fu_5
    induction fu_5 with
    | zero => intro g i hi hg hn_5; exact absurd hn_5 (by omega)
    | succ fu_5 ih_5 =>
      intro g i hi hg hn_5 ls hl
      have hg1 : g ≤ 1 := by rw [hg]; exact zAb_le _
      have hqpi := hqp i
      have hqli := hql i
      have hqri := hqr i
      have hzt := @zTen_le (wt p_) (kd p_) f (hard (ql i))
      refine lv_iload hx hb dX11_couldBe_5 (lv_at hl 0 rfl) ?_
      refine lv_aload_n hx hb dX11_couldBe_7 rfl (lv_at hl 2 rfl) ?_
      refine va_get (D := D) (ci := 11) (v := .int (nI nh)) (C := RX11) (T := TX11) (N := 40) hx hb hts zi_X11_couldBe_X11 hown hK hP 0 rfl rfl 12 (by decide) (hts (.fieldLink RX11 119 "BeatenInsteadModel" "heard" "I") (List.mem_of_getElem? (i := 1) rfl)) (fun _ h9 => h9) rfl dX11_couldBe_8 ?_
      refine lv_icmp_ge (tgt := 82) hx hb dX11_couldBe_11 (by decide) (fun c_1 => ?_) (fun c_1 => ?_)
      · skip
        have c_1 : nh ≤ i := (nI_leI (a := nh) (b := i) (by omega) (by omega)).mp c_1
        refine lv_iload_n hx hb dX11_couldBe_82 rfl (lv_at hl 1 rfl) ?_
        rcases (show g = 0 ∨ g = 1 by omega) with rfl | rfl
        · skip
          refine z_top (show nI 0 = (0 : Int32) from rfl) ?_
          exact hret _ _ _ dX11_couldBe_83 rfl (zB.f (fun h => by rw [show nh = i by omega, zAb_0 hg.symm] at h; cases h))
        · skip
          refine z_top (show nI 1 = (1 : Int32) from rfl) ?_
          exact hret _ _ _ dX11_couldBe_83 rfl (zB.t (by rw [show nh = i by omega]; exact zAb_1 hg.symm))
      · skip
        have c_1 : ¬ (nh ≤ i) := (not_congr (nI_leI (a := nh) (b := i) (by omega) (by omega))).mp c_1
        refine lv_aload_n hx hb dX11_couldBe_14 rfl (lv_at hl 2 rfl) ?_
        refine va_get (D := D) (ci := 11) (v := .ref m_qp) (C := RX11) (T := TX11) (N := 40) hx hb hts zi_X11_couldBe_X11 hown hK hP 0 rfl rfl 13 (by decide) (hts (.fieldLink RX11 34 "BeatenInsteadModel" "heardPrince" "[I") (List.mem_of_getElem? (i := 2) rfl)) (fun _ h9 => h9) rfl dX11_couldBe_15 ?_
        refine lv_iload hx hb dX11_couldBe_18 (lv_at hl 0 rfl) ?_
        refine va_iald hx hb hK hP 4 0 rfl rfl (vp_in_nI (by omega) (by omega)) dX11_couldBe_20 ?_
        refine z_top (y := nI (qp i)) (z_ld (f := fun q_ => nI (qp q_)) (a := i) (by omega) rfl) ?_
        refine lv_iload_n hx hb dX11_couldBe_21 rfl (lv_at hl 3 rfl) ?_
        refine lv_icmp_ne (tgt := 41) hx hb dX11_couldBe_22 (by decide) (fun c_2 => ?_) (fun c_2 => ?_)
        · skip
          have c_2 : ¬ (qp i = p_) := (not_congr (nI_eq (a := qp i) (b := p_) (by omega) (by omega))).mp c_2
          refine lv_iconst (v := 5) hx hb dX11_couldBe_41 (by decide) ?_
          refine lv_istore (lv' := [(5, .int 5), (4, .int (nI i)), (3, .int (nI g)), (0, .ref mo), (1, .int (nI p_)), (2, .int (nI f))]) hx hb dX11_couldBe_42 hl (by decide) rfl (fun ls hl => ?_)
          refine lv_iload_n hx hb dX11_couldBe_44 rfl (lv_at hl 2 rfl) ?_
          refine lv_if_eq (tgt := 74) hx hb dX11_couldBe_45 (by decide) (fun c_3 => ?_) (fun c_3 => ?_)
          · skip
            have c_3 : g = 0 := (nI_eq (a := g) (b := 0) (by omega) (by omega)).mp c_3
            refine lv_iconst (v := 0) hx hb dX11_couldBe_74 (by decide) ?_
            refine lv_istore_n (lv' := [(3, .int 0), (5, .int 5), (4, .int (nI i)), (0, .ref mo), (1, .int (nI p_)), (2, .int (nI f))]) hx hb dX11_couldBe_75 rfl hl (by decide) rfl (fun ls hl => ?_)
            refine lv_iinc (v := nI (i + 1)) (lv' := [(4, .int (nI (i + 1))), (3, .int 0), (5, .int 5), (0, .ref mo), (1, .int (nI p_)), (2, .int (nI f))]) hx hb dX11_couldBe_76 hl (k := 2) rfl (nI_add (i) 1) (by decide) rfl (fun ls hl => ?_)
            refine lv_goto (tgt := 5) hx hb dX11_couldBe_79 (by decide) ?_
            exact ih_5 0 (i + 1) (by omega) (by rw [zAg, if_neg c_2, Bool.and_true]; omega) (by omega) ls (lv_sub hl [0, 1, 3, 4, 5] rfl)
          · skip
            have c_3 : ¬ (g = 0) := (not_congr (nI_eq (a := g) (b := 0) (by omega) (by omega))).mp c_3
            refine lv_iload hx hb dX11_couldBe_48 (lv_at hl 0 rfl) ?_
            refine lv_aload_n hx hb dX11_couldBe_50 rfl (lv_at hl 3 rfl) ?_
            refine va_get (D := D) (ci := 11) (v := .ref m_qr) (C := RX11) (T := TX11) (N := 40) hx hb hts zi_X11_couldBe_X11 hown hK hP 0 rfl rfl 15 (by decide) (hts (.fieldLink RX11 40 "BeatenInsteadModel" "heardLearnt" "[I") (List.mem_of_getElem? (i := 4) rfl)) (fun _ h9 => h9) rfl dX11_couldBe_51 ?_
            refine lv_iload hx hb dX11_couldBe_54 (lv_at hl 1 rfl) ?_
            refine va_iald hx hb hK hP 6 0 rfl rfl (vp_in_nI (by omega) (by omega)) dX11_couldBe_56 ?_
            refine z_top (y := nI (qr i)) (z_ld (f := fun q_ => nI (qr q_)) (a := i) (by omega) rfl) ?_
            refine lv_iconst (v := 1) hx hb dX11_couldBe_57 (by decide) ?_
            refine lv_icmp_ne (tgt := 65) hx hb dX11_couldBe_58 (by decide) (fun c_4 => ?_) (fun c_4 => ?_)
            · skip
              have c_4 : ¬ (qr i = 1) := (not_congr (nI_eq (a := qr i) (b := 1) (by omega) (by omega))).mp c_4
              refine lv_bipush (v := (10)) hx hb dX11_couldBe_65 (by decide) ?_
              refine lv_icmp_eq (tgt := 74) hx hb dX11_couldBe_67 (by decide) (fun c => absurd c (by decide)) (fun _ => ?_)
              refine lv_iconst (v := 1) hx hb dX11_couldBe_70 (by decide) ?_
              refine lv_goto (tgt := 75) hx hb dX11_couldBe_71 (by decide) ?_
              refine lv_istore_n (lv' := [(3, .int 1), (5, .int 5), (4, .int (nI i)), (0, .ref mo), (1, .int (nI p_)), (2, .int (nI f))]) hx hb dX11_couldBe_75 rfl hl (by decide) rfl (fun ls hl => ?_)
              refine lv_iinc (v := nI (i + 1)) (lv' := [(4, .int (nI (i + 1))), (3, .int 1), (5, .int 5), (0, .ref mo), (1, .int (nI p_)), (2, .int (nI f))]) hx hb dX11_couldBe_76 hl (k := 2) rfl (nI_add (i) 1) (by decide) rfl (fun ls hl => ?_)
              refine lv_goto (tgt := 5) hx hb dX11_couldBe_79 (by decide) ?_
              exact ih_5 1 (i + 1) (by omega) (by rw [zAg, if_neg c_2, Bool.and_true]; omega) (by omega) ls (lv_sub hl [0, 1, 3, 4, 5] rfl)
            · skip
              have c_4 : qr i = 1 := (nI_eq (a := qr i) (b := 1) (by omega) (by omega)).mp c_4
              refine lv_iconst (v := 0) hx hb dX11_couldBe_61 (by decide) ?_
              refine lv_goto (tgt := 67) hx hb dX11_couldBe_62 (by decide) ?_
              refine lv_icmp_eq (tgt := 74) hx hb dX11_couldBe_67 (by decide) (fun c => absurd c (by decide)) (fun _ => ?_)
              refine lv_iconst (v := 1) hx hb dX11_couldBe_70 (by decide) ?_
              refine lv_goto (tgt := 75) hx hb dX11_couldBe_71 (by decide) ?_
              refine lv_istore_n (lv' := [(3, .int 1), (5, .int 5), (4, .int (nI i)), (0, .ref mo), (1, .int (nI p_)), (2, .int (nI f))]) hx hb dX11_couldBe_75 rfl hl (by decide) rfl (fun ls hl => ?_)
              refine lv_iinc (v := nI (i + 1)) (lv' := [(4, .int (nI (i + 1))), (3, .int 1), (5, .int 5), (0, .ref mo), (1, .int (nI p_)), (2, .int (nI f))]) hx hb dX11_couldBe_76 hl (k := 2) rfl (nI_add (i) 1) (by decide) rfl (fun ls hl => ?_)
              refine lv_goto (tgt := 5) hx hb dX11_couldBe_79 (by decide) ?_
              exact ih_5 1 (i + 1) (by omega) (by rw [zAg, if_neg c_2, Bool.and_true]; omega) (by omega) ls (lv_sub hl [0, 1, 3, 4, 5] rfl)
        · skip
          have c_2 : qp i = p_ := (nI_eq (a := qp i) (b := p_) (by omega) (by omega)).mp c_2
          refine lv_aload_n hx hb dX11_couldBe_25 rfl (lv_at hl 2 rfl) ?_
          refine lv_iload_n hx hb dX11_couldBe_26 rfl (lv_at hl 3 rfl) ?_
          refine lv_aload_n hx hb dX11_couldBe_27 rfl (lv_at hl 2 rfl) ?_
          refine va_get (D := D) (ci := 11) (v := .ref m_ql) (C := RX11) (T := TX11) (N := 40) hx hb hts zi_X11_couldBe_X11 hown hK hP 0 rfl rfl 14 (by decide) (hts (.fieldLink RX11 37 "BeatenInsteadModel" "heardLesson" "[I") (List.mem_of_getElem? (i := 3) rfl)) (fun _ h9 => h9) rfl dX11_couldBe_28 ?_
          refine lv_iload hx hb dX11_couldBe_31 (lv_at hl 0 rfl) ?_
          refine va_iald hx hb hK hP 5 0 rfl rfl (vp_in_nI (by omega) (by omega)) dX11_couldBe_33 ?_
          refine z_top (y := nI (ql i)) (z_ld (f := fun q_ => nI (ql q_)) (a := i) (by omega) rfl) ?_
          refine lv_iload_n hx hb dX11_couldBe_34 rfl (lv_at hl 4 rfl) ?_
          refine vp_callSi (z_runV (b := mo) (As := [.int (nI p_), .int (nI (ql i)), .int (nI f)]) (rest := []) hx hb hml hown hts hK hN hl.1 (c_X11_tenthsBy l D cI cB cP mo m_hard m_blows m_stripes m_kd m_wt m_boys m_learnt m_fond m_qp m_ql m_qr m_codes m_left m_row m_sv m_k_fond m_k_stripes m_k_learnt m_k_boys m_k_qp m_k_ql m_k_qr wI nM sS sF lM sN iK kS kP kH hh sch asks lessons limit np nh size hard kd wt p_ (ql i) f (hp_) (hql _) (hf) (hkd) (hwt) (hha)) gX11_couldBe_X11_tenthsBy rfl zd_X11_tenthsBy rfl (Nat.le_of_ble_eq_true rfl) (Nat.le_of_ble_eq_true rfl) (va_P.sub (ws' := [(mo, .inr (11, [.int sch, .int (nI lessons), .int (nI limit), .ref m_hard, .ref m_blows, .ref m_stripes, .int (nI np), .ref m_kd, .ref m_wt, .ref m_boys, .ref m_learnt, .ref m_fond, .int (nI nh), .ref m_qp, .ref m_ql, .ref m_qr, .int asks, .int (nI size), .ref m_codes, .int wI, .int nM, .int sS, .int sF, .ref m_left, .int lM, .ref m_row, .long sN, .ref m_sv, .int iK, .int kS, .int kP, .int kH, .ref m_k_fond, .ref m_k_stripes, .ref m_k_learnt, .ref m_k_boys, .ref m_k_qp, .ref m_k_ql, .ref m_k_qr, .long hh])), (m_hard, .inl (cI, 5, .inl (fun q_ => nI (hard q_)))), (m_kd, .inl (cI, 3, .inl (fun q_ => nI (kd q_)))), (m_wt, .inl (cI, 3, .inl (fun q_ => nI (wt q_))))]) hP [0, 1, 2, 3] rfl) (va_recv hK hP (ci := 11) (q0 := 0) rfl rfl) rfl (Nat.le_of_ble_eq_true rfl) dX11_couldBe_35 ⟨Nat.zero_le _, Nat.zero_le _⟩) (fun r hr => ?_)
          subst hr
          refine lv_goto (tgt := 42) hx hb dX11_couldBe_38 (by decide) ?_
          refine lv_istore (lv' := [(5, .int (nI (zTen (wt p_) (kd p_) f (hard (ql i))))), (4, .int (nI i)), (3, .int (nI g)), (0, .ref mo), (1, .int (nI p_)), (2, .int (nI f))]) hx hb dX11_couldBe_42 hl (by decide) rfl (fun ls hl => ?_)
          refine lv_iload_n hx hb dX11_couldBe_44 rfl (lv_at hl 2 rfl) ?_
          refine lv_if_eq (tgt := 74) hx hb dX11_couldBe_45 (by decide) (fun c_3 => ?_) (fun c_3 => ?_)
          · skip
            have c_3 : g = 0 := (nI_eq (a := g) (b := 0) (by omega) (by omega)).mp c_3
            refine lv_iconst (v := 0) hx hb dX11_couldBe_74 (by decide) ?_
            refine lv_istore_n (lv' := [(3, .int 0), (5, .int (nI (zTen (wt p_) (kd p_) f (hard (ql i))))), (4, .int (nI i)), (0, .ref mo), (1, .int (nI p_)), (2, .int (nI f))]) hx hb dX11_couldBe_75 rfl hl (by decide) rfl (fun ls hl => ?_)
            refine lv_iinc (v := nI (i + 1)) (lv' := [(4, .int (nI (i + 1))), (3, .int 0), (5, .int (nI (zTen (wt p_) (kd p_) f (hard (ql i))))), (0, .ref mo), (1, .int (nI p_)), (2, .int (nI f))]) hx hb dX11_couldBe_76 hl (k := 2) rfl (nI_add (i) 1) (by decide) rfl (fun ls hl => ?_)
            refine lv_goto (tgt := 5) hx hb dX11_couldBe_79 (by decide) ?_
            exact ih_5 0 (i + 1) (by omega) (by rw [zAg, zAb_0 (b := zAg qp ql qr hard (wt p_) (kd p_) p_ f i) (by omega)]; rfl) (by omega) ls (lv_sub hl [0, 1, 3, 4, 5] rfl)
          · skip
            have c_3 : ¬ (g = 0) := (not_congr (nI_eq (a := g) (b := 0) (by omega) (by omega))).mp c_3
            refine lv_iload hx hb dX11_couldBe_48 (lv_at hl 0 rfl) ?_
            refine lv_aload_n hx hb dX11_couldBe_50 rfl (lv_at hl 3 rfl) ?_
            refine va_get (D := D) (ci := 11) (v := .ref m_qr) (C := RX11) (T := TX11) (N := 40) hx hb hts zi_X11_couldBe_X11 hown hK hP 0 rfl rfl 15 (by decide) (hts (.fieldLink RX11 40 "BeatenInsteadModel" "heardLearnt" "[I") (List.mem_of_getElem? (i := 4) rfl)) (fun _ h9 => h9) rfl dX11_couldBe_51 ?_
            refine lv_iload hx hb dX11_couldBe_54 (lv_at hl 1 rfl) ?_
            refine va_iald hx hb hK hP 6 0 rfl rfl (vp_in_nI (by omega) (by omega)) dX11_couldBe_56 ?_
            refine z_top (y := nI (qr i)) (z_ld (f := fun q_ => nI (qr q_)) (a := i) (by omega) rfl) ?_
            refine lv_iconst (v := 1) hx hb dX11_couldBe_57 (by decide) ?_
            refine lv_icmp_ne (tgt := 65) hx hb dX11_couldBe_58 (by decide) (fun c_4 => ?_) (fun c_4 => ?_)
            · skip
              have c_4 : ¬ (qr i = 1) := (not_congr (nI_eq (a := qr i) (b := 1) (by omega) (by omega))).mp c_4
              refine lv_bipush (v := (10)) hx hb dX11_couldBe_65 (by decide) ?_
              refine lv_icmp_eq (tgt := 74) hx hb dX11_couldBe_67 (by decide) (fun c_5 => ?_) (fun c_5 => ?_)
              · skip
                have c_5 : zTen (wt p_) (kd p_) f (hard (ql i)) = 10 := (nI_eq (a := zTen (wt p_) (kd p_) f (hard (ql i))) (b := 10) (by omega) (by omega)).mp c_5
                refine lv_iconst (v := 0) hx hb dX11_couldBe_74 (by decide) ?_
                refine lv_istore_n (lv' := [(3, .int 0), (5, .int (nI (zTen (wt p_) (kd p_) f (hard (ql i))))), (4, .int (nI i)), (0, .ref mo), (1, .int (nI p_)), (2, .int (nI f))]) hx hb dX11_couldBe_75 rfl hl (by decide) rfl (fun ls hl => ?_)
                refine lv_iinc (v := nI (i + 1)) (lv' := [(4, .int (nI (i + 1))), (3, .int 0), (5, .int (nI (zTen (wt p_) (kd p_) f (hard (ql i))))), (0, .ref mo), (1, .int (nI p_)), (2, .int (nI f))]) hx hb dX11_couldBe_76 hl (k := 2) rfl (nI_add (i) 1) (by decide) rfl (fun ls hl => ?_)
                refine lv_goto (tgt := 5) hx hb dX11_couldBe_79 (by decide) ?_
                exact ih_5 0 (i + 1) (by omega) (by rw [zAg, zAb_1 (b := zAg qp ql qr hard (wt p_) (kd p_) p_ f i) (by omega), if_pos c_2]; exact zAb_can (by omega)) (by omega) ls (lv_sub hl [0, 1, 3, 4, 5] rfl)
              · skip
                have c_5 : ¬ (zTen (wt p_) (kd p_) f (hard (ql i)) = 10) := (not_congr (nI_eq (a := zTen (wt p_) (kd p_) f (hard (ql i))) (b := 10) (by omega) (by omega))).mp c_5
                refine lv_iconst (v := 1) hx hb dX11_couldBe_70 (by decide) ?_
                refine lv_goto (tgt := 75) hx hb dX11_couldBe_71 (by decide) ?_
                refine lv_istore_n (lv' := [(3, .int 1), (5, .int (nI (zTen (wt p_) (kd p_) f (hard (ql i))))), (4, .int (nI i)), (0, .ref mo), (1, .int (nI p_)), (2, .int (nI f))]) hx hb dX11_couldBe_75 rfl hl (by decide) rfl (fun ls hl => ?_)
                refine lv_iinc (v := nI (i + 1)) (lv' := [(4, .int (nI (i + 1))), (3, .int 1), (5, .int (nI (zTen (wt p_) (kd p_) f (hard (ql i))))), (0, .ref mo), (1, .int (nI p_)), (2, .int (nI f))]) hx hb dX11_couldBe_76 hl (k := 2) rfl (nI_add (i) 1) (by decide) rfl (fun ls hl => ?_)
                refine lv_goto (tgt := 5) hx hb dX11_couldBe_79 (by decide) ?_
                exact ih_5 1 (i + 1) (by omega) (by rw [zAg, zAb_1 (b := zAg qp ql qr hard (wt p_) (kd p_) p_ f i) (by omega), if_pos c_2]; exact zAb_can (by omega)) (by omega) ls (lv_sub hl [0, 1, 3, 4, 5] rfl)
            · skip
              have c_4 : qr i = 1 := (nI_eq (a := qr i) (b := 1) (by omega) (by omega)).mp c_4
              refine lv_iconst (v := 0) hx hb dX11_couldBe_61 (by decide) ?_
              refine lv_goto (tgt := 67) hx hb dX11_couldBe_62 (by decide) ?_
              refine lv_icmp_eq (tgt := 74) hx hb dX11_couldBe_67 (by decide) (fun c_5 => ?_) (fun c_5 => ?_)
              · skip
                have c_5 : zTen (wt p_) (kd p_) f (hard (ql i)) = 0 := (nI_eq (a := zTen (wt p_) (kd p_) f (hard (ql i))) (b := 0) (by omega) (by omega)).mp c_5
                refine lv_iconst (v := 0) hx hb dX11_couldBe_74 (by decide) ?_
                refine lv_istore_n (lv' := [(3, .int 0), (5, .int (nI (zTen (wt p_) (kd p_) f (hard (ql i))))), (4, .int (nI i)), (0, .ref mo), (1, .int (nI p_)), (2, .int (nI f))]) hx hb dX11_couldBe_75 rfl hl (by decide) rfl (fun ls hl => ?_)
                refine lv_iinc (v := nI (i + 1)) (lv' := [(4, .int (nI (i + 1))), (3, .int 0), (5, .int (nI (zTen (wt p_) (kd p_) f (hard (ql i))))), (0, .ref mo), (1, .int (nI p_)), (2, .int (nI f))]) hx hb dX11_couldBe_76 hl (k := 2) rfl (nI_add (i) 1) (by decide) rfl (fun ls hl => ?_)
                refine lv_goto (tgt := 5) hx hb dX11_couldBe_79 (by decide) ?_
                exact ih_5 0 (i + 1) (by omega) (by rw [zAg, zAb_1 (b := zAg qp ql qr hard (wt p_) (kd p_) p_ f i) (by omega), if_pos c_2]; exact zAb_can (by omega)) (by omega) ls (lv_sub hl [0, 1, 3, 4, 5] rfl)
              · skip
                have c_5 : ¬ (zTen (wt p_) (kd p_) f (hard (ql i)) = 0) := (not_congr (nI_eq (a := zTen (wt p_) (kd p_) f (hard (ql i))) (b := 0) (by omega) (by omega))).mp c_5
                refine lv_iconst (v := 1) hx hb dX11_couldBe_70 (by decide) ?_
                refine lv_goto (tgt := 75) hx hb dX11_couldBe_71 (by decide) ?_
                refine lv_istore_n (lv' := [(3, .int 1), (5, .int (nI (zTen (wt p_) (kd p_) f (hard (ql i))))), (4, .int (nI i)), (0, .ref mo), (1, .int (nI p_)), (2, .int (nI f))]) hx hb dX11_couldBe_75 rfl hl (by decide) rfl (fun ls hl => ?_)
                refine lv_iinc (v := nI (i + 1)) (lv' := [(4, .int (nI (i + 1))), (3, .int 1), (5, .int (nI (zTen (wt p_) (kd p_) f (hard (ql i))))), (0, .ref mo), (1, .int (nI p_)), (2, .int (nI f))]) hx hb dX11_couldBe_76 hl (k := 2) rfl (nI_add (i) 1) (by decide) rfl (fun ls hl => ?_)
                refine lv_goto (tgt := 5) hx hb dX11_couldBe_79 (by decide) ?_
                exact ih_5 1 (i + 1) (by omega) (by rw [zAg, zAb_1 (b := zAg qp ql qr hard (wt p_) (kd p_) p_ f i) (by omega), if_pos c_2]; exact zAb_can (by omega)) (by omega) ls (lv_sub hl [0, 1, 3, 4, 5] rfl)
  exact loop_5 _ 1 0 (Nat.zero_le _) (rfl) (Nat.lt_succ_self _) ls hl

abbrev rm_X11_fondnessNow : Room := { frames := 3, cells := 0, slots := 0, locals := 71 }
set_option maxHeartbeats 4000000 in
set_option maxRecDepth 100000 in
theorem c_X11_fondnessNow (l : Launch) (D : va_G) (cI cB cP : ClassId) (mo : Nat) (m_hard : Nat) (m_blows : Nat) (m_stripes : Nat) (m_kd : Nat) (m_wt : Nat) (m_boys : Nat) (m_learnt : Nat) (m_fond : Nat) (m_qp : Nat) (m_ql : Nat) (m_qr : Nat) (m_codes : Nat) (m_left : Nat) (m_row : Nat) (m_sv : Nat) (m_k_fond : Nat) (m_k_stripes : Nat) (m_k_learnt : Nat) (m_k_boys : Nat) (m_k_qp : Nat) (m_k_ql : Nat) (m_k_qr : Nat) (wI : Int32) (nM : Int32) (sS : Int32) (sF : Int32) (lM : Int32) (sN : Int64) (iK : Int32) (kS : Int32) (kP : Int32) (kH : Int32) (hh : Int64) (sch : Int32) (asks : Int32) (lessons : Nat) (limit : Nat) (np : Nat) (nh : Nat) (size : Nat) (hard : Nat → Nat) (kd : Nat → Nat) (wt : Nat → Nat) (qp : Nat → Nat) (ql : Nat → Nat) (qr : Nat → Nat) (p_ : Nat) (hnh : nh ≤ 6) (hkd : ∀ i, kd i < 5) (hwt : ∀ i, wt i ≤ 9) (hha : ∀ i, hard i ≤ 9) (hql : ∀ i, ql i < 5) (hqr : ∀ i, qr i < 2) (hqp : ∀ i, qp i < 3) (hp_ : p_ < 3)  : zPi l D cI cB cP yX11_fondnessNow wsX11_fondnessNow rm_X11_fondnessNow [.ref mo, .int (nI p_)] ([(mo, .inr (11, [.int sch, .int (nI lessons), .int (nI limit), .ref m_hard, .ref m_blows, .ref m_stripes, .int (nI np), .ref m_kd, .ref m_wt, .ref m_boys, .ref m_learnt, .ref m_fond, .int (nI nh), .ref m_qp, .ref m_ql, .ref m_qr, .int asks, .int (nI size), .ref m_codes, .int wI, .int nM, .int sS, .int sF, .ref m_left, .int lM, .ref m_row, .long sN, .ref m_sv, .int iK, .int kS, .int kP, .int kH, .ref m_k_fond, .ref m_k_stripes, .ref m_k_learnt, .ref m_k_boys, .ref m_k_qp, .ref m_k_ql, .ref m_k_qr, .long hh])), (m_hard, .inl (cI, 5, .inl (fun q_ => nI (hard q_)))), (m_kd, .inl (cI, 3, .inl (fun q_ => nI (kd q_)))), (m_wt, .inl (cI, 3, .inl (fun q_ => nI (wt q_)))), (m_qp, .inl (cI, 6, .inl (fun q_ => nI (qp q_)))), (m_ql, .inl (cI, 6, .inl (fun q_ => nI (ql q_)))), (m_qr, .inl (cI, 6, .inl (fun q_ => nI (qr q_))))]) (fun r => r = nI (zFns qp ql qr hard (wt p_) (kd p_) p_ nh 10)) := by
  refine zPi_of (cc := cX11_fondnessNow) (maxL := 4) (by decide) rfl (Nat.le_of_ble_eq_true rfl) ?_
  intro p e s m args below meth c ls Q hx hb hml hts hown hP hK hN hl hret
  have hown : s.vm.findClass RX11 = some m.cls := hown
  have hl : lv_has ls 4 [(0, .ref mo), (1, .int (nI p_))] := hl
  refine lv_iconst (v := 0) hx hb dX11_fondnessNow_0 (by decide) ?_
  refine lv_istore_n (lv' := [(2, .int 0), (0, .ref mo), (1, .int (nI p_))]) hx hb dX11_fondnessNow_1 rfl hl (by decide) rfl (fun ls hl => ?_)
  refine lv_iconst (v := 0) hx hb dX11_fondnessNow_2 (by decide) ?_
  refine lv_istore_n (lv' := [(3, .int 0), (2, .int 0), (0, .ref mo), (1, .int (nI p_))]) hx hb dX11_fondnessNow_3 rfl hl (by decide) rfl (fun ls hl => ?_)
  have loop_4 : ∀ (fu_4 : Nat) (y i : Nat), (i ≤ 10) → (y = zFns qp ql qr hard (wt p_) (kd p_) p_ nh i) → 10 - i < fu_4 → ∀ (ls : Array Slot), lv_has ls 4 [(3, .int (nI i)), (2, .int (nI y)), (0, .ref mo), (1, .int (nI p_))] → W p l e rm_X11_fondnessNow s m args below meth c s.heap [] 0 0 Q (F0 m 4 ls []) := by
    intro fu_4
    induction fu_4 with
    | zero => intro y i hi hy hn_4; exact absurd hn_4 (by omega)
    | succ fu_4 ih_4 =>
      intro y i hi hy hn_4 ls hl
      have hy2 : y < 2 ^ 10 := by rw [hy]; exact Nat.lt_of_lt_of_le (zFns_lt i) (Nat.pow_le_pow_right (by omega) (by omega))
      have hp2 : 2 ^ i < 2 ^ 31 := Nat.pow_lt_pow_right (by omega) (by omega)
      refine lv_iload_n hx hb dX11_fondnessNow_4 rfl (lv_at hl 0 rfl) ?_
      refine lv_bipush (v := (9)) hx hb dX11_fondnessNow_5 (by decide) ?_
      refine lv_icmp_gt (tgt := 35) hx hb dX11_fondnessNow_7 (by decide) (fun c_1 => ?_) (fun c_1 => ?_)
      · skip
        have c_1 : 9 < i := (nI_ltI (a := 9) (b := i) (by omega) (by omega)).mp c_1
        refine lv_iload_n hx hb dX11_fondnessNow_35 rfl (lv_at hl 1 rfl) ?_
        exact hret _ _ _ dX11_fondnessNow_36 (by rw [hy, show i = 10 by omega])
      · skip
        have c_1 : ¬ (9 < i) := (not_congr (nI_ltI (a := 9) (b := i) (by omega) (by omega))).mp c_1
        refine lv_iload_n hx hb dX11_fondnessNow_10 rfl (lv_at hl 1 rfl) ?_
        refine lv_aload_n hx hb dX11_fondnessNow_11 rfl (lv_at hl 2 rfl) ?_
        refine lv_iload_n hx hb dX11_fondnessNow_12 rfl (lv_at hl 3 rfl) ?_
        refine lv_iload_n hx hb dX11_fondnessNow_13 rfl (lv_at hl 0 rfl) ?_
        refine vp_callSi (z_runV (b := mo) (As := [.int (nI p_), .int (nI i)]) (rest := [.int (nI y)]) hx hb hml hown hts hK hN hl.1 (c_X11_couldBe l D cI cB cP mo m_hard m_blows m_stripes m_kd m_wt m_boys m_learnt m_fond m_qp m_ql m_qr m_codes m_left m_row m_sv m_k_fond m_k_stripes m_k_learnt m_k_boys m_k_qp m_k_ql m_k_qr wI nM sS sF lM sN iK kS kP kH hh sch asks lessons limit np nh size hard kd wt qp ql qr p_ i (by first | assumption | omega) (by first | assumption | omega) (by first | assumption | omega) (by first | assumption | omega) (by first | assumption | omega) (by first | assumption | omega) (by first | assumption | omega) (by first | assumption | omega) (by first | assumption | omega)) gX11_fondnessNow_X11_couldBe rfl zd_X11_couldBe rfl (Nat.le_of_ble_eq_true rfl) (Nat.le_of_ble_eq_true rfl) (va_P.sub (ws' := [(mo, .inr (11, [.int sch, .int (nI lessons), .int (nI limit), .ref m_hard, .ref m_blows, .ref m_stripes, .int (nI np), .ref m_kd, .ref m_wt, .ref m_boys, .ref m_learnt, .ref m_fond, .int (nI nh), .ref m_qp, .ref m_ql, .ref m_qr, .int asks, .int (nI size), .ref m_codes, .int wI, .int nM, .int sS, .int sF, .ref m_left, .int lM, .ref m_row, .long sN, .ref m_sv, .int iK, .int kS, .int kP, .int kH, .ref m_k_fond, .ref m_k_stripes, .ref m_k_learnt, .ref m_k_boys, .ref m_k_qp, .ref m_k_ql, .ref m_k_qr, .long hh])), (m_hard, .inl (cI, 5, .inl (fun q_ => nI (hard q_)))), (m_kd, .inl (cI, 3, .inl (fun q_ => nI (kd q_)))), (m_wt, .inl (cI, 3, .inl (fun q_ => nI (wt q_)))), (m_qp, .inl (cI, 6, .inl (fun q_ => nI (qp q_)))), (m_ql, .inl (cI, 6, .inl (fun q_ => nI (ql q_)))), (m_qr, .inl (cI, 6, .inl (fun q_ => nI (qr q_))))]) hP [0, 1, 2, 3, 4, 5, 6] rfl) (va_recv hK hP (ci := 11) (q0 := 0) rfl rfl) rfl (Nat.le_of_ble_eq_true rfl) dX11_fondnessNow_14 ⟨Nat.zero_le _, Nat.zero_le _⟩) (fun r hr => ?_)
        rcases hr with ⟨rfl, c_2⟩ | ⟨rfl, c_2⟩
        · skip
          refine lv_if_eq (tgt := 26) hx hb dX11_fondnessNow_17 (by decide) (fun c => absurd c (by decide)) (fun _ => ?_)
          refine lv_iconst (v := 1) hx hb dX11_fondnessNow_20 (by decide) ?_
          refine lv_iload_n hx hb dX11_fondnessNow_21 rfl (lv_at hl 0 rfl) ?_
          refine lv_ishl hx hb dX11_fondnessNow_22 ?_
          refine z_top (show (1 <<< ((nI i) &&& 31)) = nI (2 ^ i) from z_or10 i (by omega)) ?_
          refine lv_goto (tgt := 27) hx hb dX11_fondnessNow_23 (by decide) ?_
          refine lv_ior hx hb dX11_fondnessNow_27 ?_
          refine z_top (show ((nI y) ||| (nI (2 ^ i))) = nI (y ||| 2 ^ i) from z_lor (by omega) hp2) ?_
          refine lv_istore_n (lv' := [(2, .int (nI (y ||| 2 ^ i))), (3, .int (nI i)), (0, .ref mo), (1, .int (nI p_))]) hx hb dX11_fondnessNow_28 rfl hl (by decide) rfl (fun ls hl => ?_)
          refine lv_iinc (v := nI (i + 1)) (lv' := [(3, .int (nI (i + 1))), (2, .int (nI (y ||| 2 ^ i))), (0, .ref mo), (1, .int (nI p_))]) hx hb dX11_fondnessNow_29 hl (k := 1) rfl (nI_add (i) 1) (by decide) rfl (fun ls hl => ?_)
          refine lv_goto (tgt := 4) hx hb dX11_fondnessNow_32 (by decide) ?_
          exact ih_4 (y ||| 2 ^ i) (i + 1) (by omega) (by rw [zFns, if_pos c_2, hy]) (by omega) ls hl
        · skip
          refine lv_if_eq (tgt := 26) hx hb dX11_fondnessNow_17 (by decide) (fun _ => ?_) (fun c => absurd c (by decide))
          refine lv_iconst (v := 0) hx hb dX11_fondnessNow_26 (by decide) ?_
          refine lv_ior hx hb dX11_fondnessNow_27 ?_
          refine z_top (show ((nI y) ||| 0) = nI y from z_or0 _) ?_
          refine lv_istore_n (lv' := [(2, .int (nI y)), (3, .int (nI i)), (0, .ref mo), (1, .int (nI p_))]) hx hb dX11_fondnessNow_28 rfl hl (by decide) rfl (fun ls hl => ?_)
          refine lv_iinc (v := nI (i + 1)) (lv' := [(3, .int (nI (i + 1))), (2, .int (nI y)), (0, .ref mo), (1, .int (nI p_))]) hx hb dX11_fondnessNow_29 hl (k := 1) rfl (nI_add (i) 1) (by decide) rfl (fun ls hl => ?_)
          refine lv_goto (tgt := 4) hx hb dX11_fondnessNow_32 (by decide) ?_
          exact ih_4 y (i + 1) (by omega) (by rw [zFns, if_neg c_2, hy]) (by omega) ls hl
  exact loop_4 _ 0 0 (Nat.zero_le _) (rfl) (Nat.lt_succ_self _) ls hl

abbrev rm_X11_fondness : Room := { frames := 4, cells := 0, slots := 0, locals := 94 }
set_option maxHeartbeats 4000000 in
set_option maxRecDepth 100000 in
theorem c_X11_fondness (l : Launch) (D : va_G) (cI cB cP : ClassId) (mo : Nat) (m_hard : Nat) (m_blows : Nat) (m_stripes : Nat) (m_kd : Nat) (m_wt : Nat) (m_boys : Nat) (m_learnt : Nat) (m_fond : Nat) (m_qp : Nat) (m_ql : Nat) (m_qr : Nat) (m_codes : Nat) (m_left : Nat) (m_row : Nat) (m_sv : Nat) (m_k_fond : Nat) (m_k_stripes : Nat) (m_k_learnt : Nat) (m_k_boys : Nat) (m_k_qp : Nat) (m_k_ql : Nat) (m_k_qr : Nat) (wI : Int32) (nM : Int32) (sS : Int32) (sF : Int32) (lM : Int32) (sN : Int64) (iK : Int32) (kS : Int32) (kP : Int32) (kH : Int32) (hh : Int64) (sch : Int32) (asks : Int32) (lessons : Nat) (limit : Nat) (np : Nat) (nh : Nat) (size : Nat) (hard : Nat → Nat) (kd : Nat → Nat) (wt : Nat → Nat) (qp : Nat → Nat) (ql : Nat → Nat) (qr : Nat → Nat) (num : Int32) (hnp : np ≤ 3) (hnh : nh ≤ 6) (hkd : ∀ i, kd i < 5) (hwt : ∀ i, wt i ≤ 9) (hha : ∀ i, hard i ≤ 9) (hql : ∀ i, ql i < 5) (hqr : ∀ i, qr i < 2) (hqp : ∀ i, qp i < 3)  : zPi l D cI cB cP yX11_fondness wsX11_fondness rm_X11_fondness [.ref mo, .int num] ([(mo, .inr (11, [.int sch, .int (nI lessons), .int (nI limit), .ref m_hard, .ref m_blows, .ref m_stripes, .int (nI np), .ref m_kd, .ref m_wt, .ref m_boys, .ref m_learnt, .ref m_fond, .int (nI nh), .ref m_qp, .ref m_ql, .ref m_qr, .int asks, .int (nI size), .ref m_codes, .int wI, .int nM, .int sS, .int sF, .ref m_left, .int lM, .ref m_row, .long sN, .ref m_sv, .int iK, .int kS, .int kP, .int kH, .ref m_k_fond, .ref m_k_stripes, .ref m_k_learnt, .ref m_k_boys, .ref m_k_qp, .ref m_k_ql, .ref m_k_qr, .long hh])), (m_hard, .inl (cI, 5, .inl (fun q_ => nI (hard q_)))), (m_kd, .inl (cI, 3, .inl (fun q_ => nI (kd q_)))), (m_wt, .inl (cI, 3, .inl (fun q_ => nI (wt q_)))), (m_qp, .inl (cI, 6, .inl (fun q_ => nI (qp q_)))), (m_ql, .inl (cI, 6, .inl (fun q_ => nI (ql q_)))), (m_qr, .inl (cI, 6, .inl (fun q_ => nI (qr q_))))]) (fun r => r = zFondness qp ql qr hard kd wt np nh num) := by
  refine zPi_of (cc := cX11_fondness) (maxL := 2) (by decide) rfl (Nat.le_of_ble_eq_true rfl) ?_
  intro p e s m args below meth c ls Q hx hb hml hts hown hP hK hN hl hret
  have hown : s.vm.findClass RX11 = some m.cls := hown
  have hl : lv_has ls 2 [(0, .ref mo), (1, .int num)] := hl
  refine lv_aload_n hx hb dX11_fondness_0 rfl (lv_at hl 0 rfl) ?_
  refine lv_iload_n hx hb dX11_fondness_1 rfl (lv_at hl 1 rfl) ?_
  refine vp_callSi (z_runV (b := mo) (As := [.int num]) (rest := []) hx hb hml hown hts hK hN hl.1 (c_X11_isPrince l D cI cB cP mo m_hard m_blows m_stripes m_kd m_wt m_boys m_learnt m_fond m_qp m_ql m_qr m_codes m_left m_row m_sv m_k_fond m_k_stripes m_k_learnt m_k_boys m_k_qp m_k_ql m_k_qr wI nM sS sF lM sN iK kS kP kH hh sch asks lessons limit np nh size num (by first | assumption | omega)) gX11_fondness_X11_isPrince rfl zd_X11_isPrince rfl (Nat.le_of_ble_eq_true rfl) (Nat.le_of_ble_eq_true rfl) (va_P.sub (ws' := [(mo, .inr (11, [.int sch, .int (nI lessons), .int (nI limit), .ref m_hard, .ref m_blows, .ref m_stripes, .int (nI np), .ref m_kd, .ref m_wt, .ref m_boys, .ref m_learnt, .ref m_fond, .int (nI nh), .ref m_qp, .ref m_ql, .ref m_qr, .int asks, .int (nI size), .ref m_codes, .int wI, .int nM, .int sS, .int sF, .ref m_left, .int lM, .ref m_row, .long sN, .ref m_sv, .int iK, .int kS, .int kP, .int kH, .ref m_k_fond, .ref m_k_stripes, .ref m_k_learnt, .ref m_k_boys, .ref m_k_qp, .ref m_k_ql, .ref m_k_qr, .long hh]))]) hP [0] rfl) (va_recv hK hP (ci := 11) (q0 := 0) rfl rfl) rfl (Nat.le_of_ble_eq_true rfl) dX11_fondness_2 ⟨Nat.zero_le _, Nat.zero_le _⟩) (fun r hr => ?_)
  rcases hr with ⟨rfl, c_1⟩ | ⟨rfl, c_1⟩
  · skip
    refine lv_if_eq (tgt := 16) hx hb dX11_fondness_5 (by decide) (fun c => absurd c (by decide)) (fun _ => ?_)
    obtain ⟨pn, hp, rfl⟩ := z_natlt c_1.1 c_1.2 (by omega)
    refine lv_aload_n hx hb dX11_fondness_8 rfl (lv_at hl 0 rfl) ?_
    refine lv_iload_n hx hb dX11_fondness_9 rfl (lv_at hl 1 rfl) ?_
    refine vp_callSi (z_runV (b := mo) (As := [.int (nI pn)]) (rest := []) hx hb hml hown hts hK hN hl.1 (c_X11_fondnessNow l D cI cB cP mo m_hard m_blows m_stripes m_kd m_wt m_boys m_learnt m_fond m_qp m_ql m_qr m_codes m_left m_row m_sv m_k_fond m_k_stripes m_k_learnt m_k_boys m_k_qp m_k_ql m_k_qr wI nM sS sF lM sN iK kS kP kH hh sch asks lessons limit np nh size hard kd wt qp ql qr pn (by first | assumption | omega) (by first | assumption | omega) (by first | assumption | omega) (by first | assumption | omega) (by first | assumption | omega) (by first | assumption | omega) (by first | assumption | omega) (by first | assumption | omega)) gX11_fondness_X11_fondnessNow rfl zd_X11_fondnessNow rfl (Nat.le_of_ble_eq_true rfl) (Nat.le_of_ble_eq_true rfl) (va_P.sub (ws' := [(mo, .inr (11, [.int sch, .int (nI lessons), .int (nI limit), .ref m_hard, .ref m_blows, .ref m_stripes, .int (nI np), .ref m_kd, .ref m_wt, .ref m_boys, .ref m_learnt, .ref m_fond, .int (nI nh), .ref m_qp, .ref m_ql, .ref m_qr, .int asks, .int (nI size), .ref m_codes, .int wI, .int nM, .int sS, .int sF, .ref m_left, .int lM, .ref m_row, .long sN, .ref m_sv, .int iK, .int kS, .int kP, .int kH, .ref m_k_fond, .ref m_k_stripes, .ref m_k_learnt, .ref m_k_boys, .ref m_k_qp, .ref m_k_ql, .ref m_k_qr, .long hh])), (m_hard, .inl (cI, 5, .inl (fun q_ => nI (hard q_)))), (m_kd, .inl (cI, 3, .inl (fun q_ => nI (kd q_)))), (m_wt, .inl (cI, 3, .inl (fun q_ => nI (wt q_)))), (m_qp, .inl (cI, 6, .inl (fun q_ => nI (qp q_)))), (m_ql, .inl (cI, 6, .inl (fun q_ => nI (ql q_)))), (m_qr, .inl (cI, 6, .inl (fun q_ => nI (qr q_))))]) hP [0, 1, 2, 3, 4, 5, 6] rfl) (va_recv hK hP (ci := 11) (q0 := 0) rfl rfl) rfl (Nat.le_of_ble_eq_true rfl) dX11_fondness_10 ⟨Nat.zero_le _, Nat.zero_le _⟩) (fun r hr => ?_)
    subst hr
    refine lv_goto (tgt := 18) hx hb dX11_fondness_13 (by decide) ?_
    exact hret _ _ _ dX11_fondness_18 (by rw [zFondness, if_neg (z_pn hp hnp), nI_clamp (by omega)])
  · skip
    refine lv_if_eq (tgt := 16) hx hb dX11_fondness_5 (by decide) (fun _ => ?_) (fun c => absurd c (by decide))
    refine lv_bipush (v := (-101)) hx hb dX11_fondness_16 (by decide) ?_
    exact hret _ _ _ dX11_fondness_18 (by rw [zFondness, if_pos (z_nl c_1)])

theorem zi_X11_boyBy_X11 : ∀ w ∈ wsX110, w ∈ wsX11_boyBy := fun _ h => List.mem_cons_of_mem _ (List.mem_append_right _ (h))
abbrev rm_X11_boyBy : Room := { frames := 0, cells := 0, slots := 0, locals := 0 }
set_option maxHeartbeats 4000000 in
set_option maxRecDepth 100000 in
theorem c_X11_boyBy (l : Launch) (D : va_G) (cI cB cP : ClassId) (mo : Nat) (m_hard : Nat) (m_blows : Nat) (m_stripes : Nat) (m_kd : Nat) (m_wt : Nat) (m_boys : Nat) (m_learnt : Nat) (m_fond : Nat) (m_qp : Nat) (m_ql : Nat) (m_qr : Nat) (m_codes : Nat) (m_left : Nat) (m_row : Nat) (m_sv : Nat) (m_k_fond : Nat) (m_k_stripes : Nat) (m_k_learnt : Nat) (m_k_boys : Nat) (m_k_qp : Nat) (m_k_ql : Nat) (m_k_qr : Nat) (wI : Int32) (nM : Int32) (sS : Int32) (sF : Int32) (lM : Int32) (sN : Int64) (iK : Int32) (kS : Int32) (kP : Int32) (kH : Int32) (hh : Int64) (sch : Int32) (asks : Int32) (lessons : Nat) (limit : Nat) (np : Nat) (nh : Nat) (size : Nat) (code : Nat) (p_ : Nat) (hnp : np ≤ 3) (hc : code < 100) (hp_ : p_ < np)  : zPi l D cI cB cP yX11_boyBy wsX11_boyBy rm_X11_boyBy [.ref mo, .int (nI code), .int (nI p_)] ([(mo, .inr (11, [.int sch, .int (nI lessons), .int (nI limit), .ref m_hard, .ref m_blows, .ref m_stripes, .int (nI np), .ref m_kd, .ref m_wt, .ref m_boys, .ref m_learnt, .ref m_fond, .int (nI nh), .ref m_qp, .ref m_ql, .ref m_qr, .int asks, .int (nI size), .ref m_codes, .int wI, .int nM, .int sS, .int sF, .ref m_left, .int lM, .ref m_row, .long sN, .ref m_sv, .int iK, .int kS, .int kP, .int kH, .ref m_k_fond, .ref m_k_stripes, .ref m_k_learnt, .ref m_k_boys, .ref m_k_qp, .ref m_k_ql, .ref m_k_qr, .long hh]))]) (fun r => r = nI (zDg np code p_)) := by
  refine zPi_of (cc := cX11_boyBy) (maxL := 5) (by decide) rfl (Nat.le_of_ble_eq_true rfl) ?_
  intro p e s m args below meth c ls Q hx hb hml hts hown hP hK hN hl hret
  have hown : s.vm.findClass RX11 = some m.cls := hown
  have hl : lv_has ls 5 [(0, .ref mo), (1, .int (nI code)), (2, .int (nI p_))] := hl
  refine lv_iload_n hx hb dX11_boyBy_0 rfl (lv_at hl 1 rfl) ?_
  refine lv_istore_n (lv' := [(3, .int (nI code)), (0, .ref mo), (1, .int (nI code)), (2, .int (nI p_))]) hx hb dX11_boyBy_1 rfl hl (by decide) rfl (fun ls hl => ?_)
  refine lv_aload_n hx hb dX11_boyBy_2 rfl (lv_at hl 1 rfl) ?_
  refine va_get (D := D) (ci := 11) (v := .int (nI np)) (C := RX11) (T := TX11) (N := 40) hx hb hts zi_X11_boyBy_X11 hown hK hP 0 rfl rfl 6 (by decide) (hts (.fieldLink RX11 116 "BeatenInsteadModel" "princes" "I") (List.mem_of_getElem? (i := 1) rfl)) (fun _ h9 => h9) rfl dX11_boyBy_3 ?_
  refine lv_iconst (v := 1) hx hb dX11_boyBy_6 (by decide) ?_
  refine lv_isub hx hb dX11_boyBy_7 ?_
  refine z_top (show ((nI np) - 1) = nI (np - 1) from pk_sub (a := np) (b := 1) (by omega)) ?_
  refine lv_istore (lv' := [(4, .int (nI (np - 1))), (3, .int (nI code)), (0, .ref mo), (1, .int (nI code)), (2, .int (nI p_))]) hx hb dX11_boyBy_8 hl (by decide) rfl (fun ls hl => ?_)
  have loop_10 : ∀ (fu_10 : Nat) (y k : Nat), (p_ ≤ k) → (k < np) → (y = code / 3 ^ (np - 1 - k)) → k < fu_10 → ∀ (ls : Array Slot), lv_has ls 5 [(4, .int (nI k)), (3, .int (nI y)), (0, .ref mo), (1, .int (nI code)), (2, .int (nI p_))] → W p l e rm_X11_boyBy s m args below meth c s.heap [] 0 0 Q (F0 m 10 ls []) := by
    intro fu_10
    induction fu_10 with
    | zero => intro y k hk1 hk2 hy hn_10; exact absurd hn_10 (by omega)
    | succ fu_10 ih_10 =>
      intro y k hk1 hk2 hy hn_10 ls hl
      have hyc : y ≤ code := by rw [hy]; exact Nat.div_le_self _ _
      refine lv_iload hx hb dX11_boyBy_10 (lv_at hl 0 rfl) ?_
      refine lv_iload_n hx hb dX11_boyBy_12 rfl (lv_at hl 4 rfl) ?_
      refine lv_icmp_le (tgt := 26) hx hb dX11_boyBy_13 (by decide) (fun c_1 => ?_) (fun c_1 => ?_)
      · skip
        have c_1 : k ≤ p_ := (nI_leI (a := k) (b := p_) (by omega) (by omega)).mp c_1
        refine lv_iload_n hx hb dX11_boyBy_26 rfl (lv_at hl 1 rfl) ?_
        refine lv_iconst (v := 3) hx hb dX11_boyBy_27 (by decide) ?_
        refine lv_irem hx hb dX11_boyBy_28 (by decide) ?_
        refine z_top (show ((nI y) - (nI y) / 3 * 3) = nI (y % 3) from pk_rem (a := y) (d := 3) (by omega) (by omega) (by omega)) ?_
        exact hret _ _ _ dX11_boyBy_29 (by rw [hy, zDg, show k = p_ by omega])
      · skip
        have c_1 : ¬ (k ≤ p_) := (not_congr (nI_leI (a := k) (b := p_) (by omega) (by omega))).mp c_1
        refine lv_iload_n hx hb dX11_boyBy_16 rfl (lv_at hl 1 rfl) ?_
        refine lv_iconst (v := 3) hx hb dX11_boyBy_17 (by decide) ?_
        refine lv_idiv hx hb dX11_boyBy_18 (by decide) ?_
        refine z_top (show ((nI y) / 3) = nI (y / 3) from pk_div (a := y) (d := 3) (by omega) (by omega) (by omega)) ?_
        refine lv_istore_n (lv' := [(3, .int (nI (y / 3))), (4, .int (nI k)), (0, .ref mo), (1, .int (nI code)), (2, .int (nI p_))]) hx hb dX11_boyBy_19 rfl hl (by decide) rfl (fun ls hl => ?_)
        refine lv_iinc (v := nI (k - 1)) (lv' := [(4, .int (nI (k - 1))), (3, .int (nI (y / 3))), (0, .ref mo), (1, .int (nI code)), (2, .int (nI p_))]) hx hb dX11_boyBy_20 hl (k := 1) rfl (z_dec (by omega)) (by decide) rfl (fun ls hl => ?_)
        refine lv_goto (tgt := 10) hx hb dX11_boyBy_23 (by decide) ?_
        exact ih_10 (y / 3) (k - 1) (by omega) (by omega) (by rw [hy, Nat.div_div_eq_div_mul, ← Nat.pow_succ, show np - 1 - (k - 1) = np - 1 - k + 1 by omega]) (by omega) ls hl
  exact loop_10 _ code (np - 1) (by omega) (by omega) (by rw [Nat.sub_self, Nat.pow_zero, Nat.div_one]) (Nat.lt_succ_self _) ls hl

theorem zi_X11_matchBy_X11 : ∀ w ∈ wsX110, w ∈ wsX11_matchBy := fun _ h => List.mem_cons_of_mem _ (List.mem_append_right _ (h))
abbrev rm_X11_matchBy : Room := { frames := 2, cells := 0, slots := 0, locals := 46 }
set_option maxHeartbeats 4000000 in
set_option maxRecDepth 100000 in
theorem c_X11_matchBy (l : Launch) (D : va_G) (cI cB cP : ClassId) (mo : Nat) (m_hard : Nat) (m_blows : Nat) (m_stripes : Nat) (m_kd : Nat) (m_wt : Nat) (m_boys : Nat) (m_learnt : Nat) (m_fond : Nat) (m_qp : Nat) (m_ql : Nat) (m_qr : Nat) (m_codes : Nat) (m_left : Nat) (m_row : Nat) (m_sv : Nat) (m_k_fond : Nat) (m_k_stripes : Nat) (m_k_learnt : Nat) (m_k_boys : Nat) (m_k_qp : Nat) (m_k_ql : Nat) (m_k_qr : Nat) (wI : Int32) (nM : Int32) (sS : Int32) (sF : Int32) (lM : Int32) (sN : Int64) (iK : Int32) (kS : Int32) (kP : Int32) (kH : Int32) (hh : Int64) (sch : Int32) (asks : Int32) (lessons : Nat) (limit : Nat) (np : Nat) (nh : Nat) (size : Nat) (hard : Nat → Nat) (blows : Nat → Nat) (kd : Nat → Nat) (wt : Nat → Nat) (fond : Nat → Nat) (le : Nat) (code : Nat) (hnp : np ≤ 3) (hkd : ∀ i, kd i < 5) (hwt : ∀ i, wt i ≤ 9) (hfo : ∀ i, fond i ≤ 9) (hha : ∀ i, hard i ≤ 9) (hbl : ∀ i, blows i ≤ 9) (hl5 : le < 5) (hc : code < 100)  : zPi l D cI cB cP yX11_matchBy wsX11_matchBy rm_X11_matchBy [.ref mo, .int (nI le), .int (nI code)] ([(mo, .inr (11, [.int sch, .int (nI lessons), .int (nI limit), .ref m_hard, .ref m_blows, .ref m_stripes, .int (nI np), .ref m_kd, .ref m_wt, .ref m_boys, .ref m_learnt, .ref m_fond, .int (nI nh), .ref m_qp, .ref m_ql, .ref m_qr, .int asks, .int (nI size), .ref m_codes, .int wI, .int nM, .int sS, .int sF, .ref m_left, .int lM, .ref m_row, .long sN, .ref m_sv, .int iK, .int kS, .int kP, .int kH, .ref m_k_fond, .ref m_k_stripes, .ref m_k_learnt, .ref m_k_boys, .ref m_k_qp, .ref m_k_ql, .ref m_k_qr, .long hh])), (m_hard, .inl (cI, 5, .inl (fun q_ => nI (hard q_)))), (m_blows, .inl (cI, 5, .inl (fun q_ => nI (blows q_)))), (m_kd, .inl (cI, 3, .inl (fun q_ => nI (kd q_)))), (m_wt, .inl (cI, 3, .inl (fun q_ => nI (wt q_)))), (m_fond, .inl (cI, 9, .inl (fun q_ => nI (fond q_))))]) (fun r => r = nI (zMb (zDg np code) (zMc kd wt fond hard blows le) np 0 0 0)) := by
  refine zPi_of (cc := cX11_matchBy) (maxL := 7) (by decide) rfl (Nat.le_of_ble_eq_true rfl) ?_
  intro p e s m args below meth c ls Q hx hb hml hts hown hP hK hN hl hret
  have hown : s.vm.findClass RX11 = some m.cls := hown
  have hl : lv_has ls 7 [(0, .ref mo), (1, .int (nI le)), (2, .int (nI code))] := hl
  refine lv_iconst (v := 0) hx hb dX11_matchBy_0 (by decide) ?_
  refine lv_istore_n (lv' := [(3, .int 0), (0, .ref mo), (1, .int (nI le)), (2, .int (nI code))]) hx hb dX11_matchBy_1 rfl hl (by decide) rfl (fun ls hl => ?_)
  refine lv_iconst (v := 0) hx hb dX11_matchBy_2 (by decide) ?_
  refine lv_istore (lv' := [(4, .int 0), (3, .int 0), (0, .ref mo), (1, .int (nI le)), (2, .int (nI code))]) hx hb dX11_matchBy_3 hl (by decide) rfl (fun ls hl => ?_)
  refine lv_iconst (v := 0) hx hb dX11_matchBy_5 (by decide) ?_
  refine lv_istore (lv' := [(5, .int 0), (4, .int 0), (3, .int 0), (0, .ref mo), (1, .int (nI le)), (2, .int (nI code))]) hx hb dX11_matchBy_6 hl (by decide) rfl (fun ls hl => ?_)
  have loop_8 : ∀ (fu_8 : Nat) (u a i : Nat), (i ≤ np) → (u < 8) → (a ≤ 90 * i) → (zMb (zDg np code) (zMc kd wt fond hard blows le) (np - i) i u a = zMb (zDg np code) (zMc kd wt fond hard blows le) np 0 0 0) → np - i < fu_8 → ∀ (ls : Array Slot), lv_has ls 7 [(5, .int (nI i)), (4, .int (nI a)), (3, .int (nI u)), (0, .ref mo), (1, .int (nI le)), (2, .int (nI code))] → W p l e rm_X11_matchBy s m args below meth c s.heap [] 0 0 Q (F0 m 8 ls []) := by
    intro fu_8
    induction fu_8 with
    | zero => intro u a i hi hu ha hE hn_8; exact absurd hn_8 (by omega)
    | succ fu_8 ih_8 =>
      intro u a i hi hu ha hE hn_8 ls hl
      have hd3 : zDg np code i < 3 := Nat.mod_lt _ (by omega)
      refine lv_iload hx hb dX11_matchBy_8 (lv_at hl 0 rfl) ?_
      refine lv_aload_n hx hb dX11_matchBy_10 rfl (lv_at hl 3 rfl) ?_
      refine va_get (D := D) (ci := 11) (v := .int (nI np)) (C := RX11) (T := TX11) (N := 40) hx hb hts zi_X11_matchBy_X11 hown hK hP 0 rfl rfl 6 (by decide) (hts (.fieldLink RX11 116 "BeatenInsteadModel" "princes" "I") (List.mem_of_getElem? (i := 1) rfl)) (fun _ h9 => h9) rfl dX11_matchBy_11 ?_
      refine lv_icmp_ge (tgt := 85) hx hb dX11_matchBy_14 (by decide) (fun c_1 => ?_) (fun c_1 => ?_)
      · skip
        have c_1 : np ≤ i := (nI_leI (a := np) (b := i) (by omega) (by omega)).mp c_1
        refine lv_iload hx hb dX11_matchBy_85 (lv_at hl 1 rfl) ?_
        exact hret _ _ _ dX11_matchBy_87 (by rw [← hE, show np - i = 0 by omega, zMb])
      · skip
        have c_1 : ¬ (np ≤ i) := (not_congr (nI_leI (a := np) (b := i) (by omega) (by omega))).mp c_1
        refine lv_aload_n hx hb dX11_matchBy_17 rfl (lv_at hl 3 rfl) ?_
        refine lv_iload_n hx hb dX11_matchBy_18 rfl (lv_at hl 5 rfl) ?_
        refine lv_iload hx hb dX11_matchBy_19 (lv_at hl 0 rfl) ?_
        refine vp_callSi (z_runV (b := mo) (As := [.int (nI code), .int (nI i)]) (rest := []) hx hb hml hown hts hK hN hl.1 (c_X11_boyBy l D cI cB cP mo m_hard m_blows m_stripes m_kd m_wt m_boys m_learnt m_fond m_qp m_ql m_qr m_codes m_left m_row m_sv m_k_fond m_k_stripes m_k_learnt m_k_boys m_k_qp m_k_ql m_k_qr wI nM sS sF lM sN iK kS kP kH hh sch asks lessons limit np nh size code i (by first | assumption | omega) (by first | assumption | omega) (by first | assumption | omega)) gX11_matchBy_X11_boyBy rfl zd_X11_boyBy rfl (Nat.le_of_ble_eq_true rfl) (Nat.le_of_ble_eq_true rfl) (va_P.sub (ws' := [(mo, .inr (11, [.int sch, .int (nI lessons), .int (nI limit), .ref m_hard, .ref m_blows, .ref m_stripes, .int (nI np), .ref m_kd, .ref m_wt, .ref m_boys, .ref m_learnt, .ref m_fond, .int (nI nh), .ref m_qp, .ref m_ql, .ref m_qr, .int asks, .int (nI size), .ref m_codes, .int wI, .int nM, .int sS, .int sF, .ref m_left, .int lM, .ref m_row, .long sN, .ref m_sv, .int iK, .int kS, .int kP, .int kH, .ref m_k_fond, .ref m_k_stripes, .ref m_k_learnt, .ref m_k_boys, .ref m_k_qp, .ref m_k_ql, .ref m_k_qr, .long hh]))]) hP [0] rfl) (va_recv hK hP (ci := 11) (q0 := 0) rfl rfl) rfl (Nat.le_of_ble_eq_true rfl) dX11_matchBy_21 ⟨Nat.zero_le _, Nat.zero_le _⟩) (fun r hr => ?_)
        subst hr
        refine lv_istore (lv' := [(6, .int (nI (zDg np code i))), (5, .int (nI i)), (4, .int (nI a)), (3, .int (nI u)), (0, .ref mo), (1, .int (nI le)), (2, .int (nI code))]) hx hb dX11_matchBy_24 hl (by decide) rfl (fun ls hl => ?_)
        have hzt := @zTen_le (wt i) (kd i) (fond (i * 3 + zDg np code i)) (hard le)
        have hbll := hbl le
        have hmm : (10 - zTen (wt i) (kd i) (fond (i * 3 + zDg np code i)) (hard le)) * blows le ≤ 10 * 9 := Nat.mul_le_mul (by omega) hbll
        refine lv_iload_n hx hb dX11_matchBy_26 rfl (lv_at hl 3 rfl) ?_
        refine lv_iload hx hb dX11_matchBy_27 (lv_at hl 0 rfl) ?_
        refine vp_callSi (z_runS (As := [.int (nI u), .int (nI (zDg np code i))]) (rest := []) hx hb hml hown hts hK hN hl.1 (c_X11_has l D cI cB cP u (zDg np code i) (by first | assumption | omega) (by first | assumption | omega)) gX11_matchBy_X11_has rfl zd_X11_has rfl (Nat.le_of_ble_eq_true rfl) (Nat.le_of_ble_eq_true rfl) z_p0 rfl (Nat.le_of_ble_eq_true rfl) dX11_matchBy_29 ⟨Nat.zero_le _, Nat.zero_le _⟩) (fun r hr => ?_)
        rcases hr with ⟨rfl, c_2⟩ | ⟨rfl, c_2⟩
        · skip
          refine lv_if_eq (tgt := 38) hx hb dX11_matchBy_32 (by decide) (fun c => absurd c (by decide)) (fun _ => ?_)
          refine lv_ldc (v := 268435456) hx hb hown (hts (.constant RX11 215 (268435456)) (List.mem_of_getElem? (i := 2) rfl)) dX11_matchBy_35 ?_
          exact hret _ _ _ dX11_matchBy_37 (by rw [← hE, show np - i = np - (i + 1) + 1 by omega, zMb, if_pos c_2]; rfl)
        · skip
          refine lv_if_eq (tgt := 38) hx hb dX11_matchBy_32 (by decide) (fun _ => ?_) (fun c => absurd c (by decide))
          refine lv_iload_n hx hb dX11_matchBy_38 rfl (lv_at hl 3 rfl) ?_
          refine lv_iconst (v := 1) hx hb dX11_matchBy_39 (by decide) ?_
          refine lv_iload hx hb dX11_matchBy_40 (lv_at hl 0 rfl) ?_
          refine lv_ishl hx hb dX11_matchBy_42 ?_
          refine z_top (show (1 <<< ((nI (zDg np code i)) &&& 31)) = nI (2 ^ (zDg np code i)) from z_or10 _ (by omega)) ?_
          refine lv_ior hx hb dX11_matchBy_43 ?_
          refine z_top (show ((nI u) ||| (nI (2 ^ (zDg np code i)))) = nI (u ||| 2 ^ zDg np code i) from z_lor (by omega) (Nat.lt_of_lt_of_le (Nat.pow_lt_pow_right (by omega) hd3) (by omega : 2 ^ 3 ≤ 2 ^ 31))) ?_
          refine lv_istore_n (lv' := [(3, .int (nI (u ||| 2 ^ zDg np code i))), (6, .int (nI (zDg np code i))), (5, .int (nI i)), (4, .int (nI a)), (0, .ref mo), (1, .int (nI le)), (2, .int (nI code))]) hx hb dX11_matchBy_44 rfl hl (by decide) rfl (fun ls hl => ?_)
          refine lv_iload hx hb dX11_matchBy_45 (lv_at hl 3 rfl) ?_
          refine lv_bipush (v := (10)) hx hb dX11_matchBy_47 (by decide) ?_
          refine lv_aload_n hx hb dX11_matchBy_49 rfl (lv_at hl 4 rfl) ?_
          refine lv_iload hx hb dX11_matchBy_50 (lv_at hl 2 rfl) ?_
          refine lv_iload_n hx hb dX11_matchBy_52 rfl (lv_at hl 5 rfl) ?_
          refine lv_aload_n hx hb dX11_matchBy_53 rfl (lv_at hl 4 rfl) ?_
          refine va_get (D := D) (ci := 11) (v := .ref m_fond) (C := RX11) (T := TX11) (N := 40) hx hb hts zi_X11_matchBy_X11 hown hK hP 0 rfl rfl 11 (by decide) (hts (.fieldLink RX11 31 "BeatenInsteadModel" "fondOf" "[I") (List.mem_of_getElem? (i := 3) rfl)) (fun _ h9 => h9) rfl dX11_matchBy_54 ?_
          refine lv_iconst (v := 3) hx hb dX11_matchBy_57 (by decide) ?_
          refine lv_iload hx hb dX11_matchBy_58 (lv_at hl 2 rfl) ?_
          refine lv_imul hx hb dX11_matchBy_60 ?_
          refine z_top (show (3 * (nI i)) = nI (i * 3) from (pk_mul 3 i).trans (by rw [Nat.mul_comm])) ?_
          refine lv_iload hx hb dX11_matchBy_61 (lv_at hl 1 rfl) ?_
          refine lv_iadd hx hb dX11_matchBy_63 ?_
          refine z_top (show ((nI (i * 3)) + (nI (zDg np code i))) = nI (i * 3 + zDg np code i) from nI_add (i * 3) (zDg np code i)) ?_
          refine va_iald hx hb hK hP 5 0 rfl rfl (vp_in_nI (by omega) (by omega)) dX11_matchBy_64 ?_
          refine z_top (y := nI (fond (i * 3 + zDg np code i))) (z_ld (f := fun q_ => nI (fond q_)) (a := i * 3 + zDg np code i) (by omega) rfl) ?_
          refine vp_callSi (z_runV (b := mo) (As := [.int (nI i), .int (nI le), .int (nI (fond (i * 3 + zDg np code i)))]) (rest := [.int 10, .int (nI a)]) hx hb hml hown hts hK hN hl.1 (c_X11_tenthsBy l D cI cB cP mo m_hard m_blows m_stripes m_kd m_wt m_boys m_learnt m_fond m_qp m_ql m_qr m_codes m_left m_row m_sv m_k_fond m_k_stripes m_k_learnt m_k_boys m_k_qp m_k_ql m_k_qr wI nM sS sF lM sN iK kS kP kH hh sch asks lessons limit np nh size hard kd wt i le (fond (i * 3 + zDg np code i)) (by omega) (hl5) (hfo _) (hkd) (hwt) (hha)) gX11_matchBy_X11_tenthsBy rfl zd_X11_tenthsBy rfl (Nat.le_of_ble_eq_true rfl) (Nat.le_of_ble_eq_true rfl) (va_P.sub (ws' := [(mo, .inr (11, [.int sch, .int (nI lessons), .int (nI limit), .ref m_hard, .ref m_blows, .ref m_stripes, .int (nI np), .ref m_kd, .ref m_wt, .ref m_boys, .ref m_learnt, .ref m_fond, .int (nI nh), .ref m_qp, .ref m_ql, .ref m_qr, .int asks, .int (nI size), .ref m_codes, .int wI, .int nM, .int sS, .int sF, .ref m_left, .int lM, .ref m_row, .long sN, .ref m_sv, .int iK, .int kS, .int kP, .int kH, .ref m_k_fond, .ref m_k_stripes, .ref m_k_learnt, .ref m_k_boys, .ref m_k_qp, .ref m_k_ql, .ref m_k_qr, .long hh])), (m_hard, .inl (cI, 5, .inl (fun q_ => nI (hard q_)))), (m_kd, .inl (cI, 3, .inl (fun q_ => nI (kd q_)))), (m_wt, .inl (cI, 3, .inl (fun q_ => nI (wt q_))))]) hP [0, 1, 3, 4] rfl) (va_recv hK hP (ci := 11) (q0 := 0) rfl rfl) rfl (Nat.le_of_ble_eq_true rfl) dX11_matchBy_65 ⟨Nat.zero_le _, Nat.zero_le _⟩) (fun r hr => ?_)
          subst hr
          refine lv_isub hx hb dX11_matchBy_68 ?_
          refine z_top (show (10 - (nI (zTen (wt i) (kd i) (fond (i * 3 + zDg np code i)) (hard le)))) = nI (10 - (zTen (wt i) (kd i) (fond (i * 3 + zDg np code i)) (hard le))) from pk_sub (a := 10) (b := zTen (wt i) (kd i) (fond (i * 3 + zDg np code i)) (hard le)) (by omega)) ?_
          refine lv_aload_n hx hb dX11_matchBy_69 rfl (lv_at hl 4 rfl) ?_
          refine va_get (D := D) (ci := 11) (v := .ref m_blows) (C := RX11) (T := TX11) (N := 40) hx hb hts zi_X11_matchBy_X11 hown hK hP 0 rfl rfl 4 (by decide) (hts (.fieldLink RX11 13 "BeatenInsteadModel" "blowsOf" "[I") (List.mem_of_getElem? (i := 4) rfl)) (fun _ h9 => h9) rfl dX11_matchBy_70 ?_
          refine lv_iload_n hx hb dX11_matchBy_73 rfl (lv_at hl 5 rfl) ?_
          refine va_iald hx hb hK hP 2 0 rfl rfl (vp_in_nI (by omega) (by omega)) dX11_matchBy_74 ?_
          refine z_top (y := nI (blows le)) (z_ld (f := fun q_ => nI (blows q_)) (a := le) (by omega) rfl) ?_
          refine lv_imul hx hb dX11_matchBy_75 ?_
          refine z_top (show ((nI (10 - (zTen (wt i) (kd i) (fond (i * 3 + zDg np code i)) (hard le)))) * (nI (blows le))) = nI ((10 - (zTen (wt i) (kd i) (fond (i * 3 + zDg np code i)) (hard le))) * (blows le)) from pk_mul (10 - (zTen (wt i) (kd i) (fond (i * 3 + zDg np code i)) (hard le))) (blows le)) ?_
          refine lv_iadd hx hb dX11_matchBy_76 ?_
          refine z_top (show ((nI a) + (nI ((10 - (zTen (wt i) (kd i) (fond (i * 3 + zDg np code i)) (hard le))) * (blows le)))) = nI (a + ((10 - (zTen (wt i) (kd i) (fond (i * 3 + zDg np code i)) (hard le))) * (blows le))) from nI_add a ((10 - (zTen (wt i) (kd i) (fond (i * 3 + zDg np code i)) (hard le))) * (blows le))) ?_
          refine lv_istore (lv' := [(4, .int (nI (a + ((10 - (zTen (wt i) (kd i) (fond (i * 3 + zDg np code i)) (hard le))) * (blows le))))), (3, .int (nI (u ||| 2 ^ zDg np code i))), (6, .int (nI (zDg np code i))), (5, .int (nI i)), (0, .ref mo), (1, .int (nI le)), (2, .int (nI code))]) hx hb dX11_matchBy_77 hl (by decide) rfl (fun ls hl => ?_)
          refine lv_iinc (v := nI (i + 1)) (lv' := [(5, .int (nI (i + 1))), (4, .int (nI (a + ((10 - (zTen (wt i) (kd i) (fond (i * 3 + zDg np code i)) (hard le))) * (blows le))))), (3, .int (nI (u ||| 2 ^ zDg np code i))), (6, .int (nI (zDg np code i))), (0, .ref mo), (1, .int (nI le)), (2, .int (nI code))]) hx hb dX11_matchBy_79 hl (k := 3) rfl (nI_add (i) 1) (by decide) rfl (fun ls hl => ?_)
          refine lv_goto (tgt := 8) hx hb dX11_matchBy_82 (by decide) ?_
          exact ih_8 (u ||| 2 ^ zDg np code i) (a + ((10 - (zTen (wt i) (kd i) (fond (i * 3 + zDg np code i)) (hard le))) * (blows le))) (i + 1) (by omega) (Nat.or_lt_two_pow (n := 3) hu (Nat.pow_lt_pow_right (by omega) hd3)) (by have := @zMc_le kd wt fond hard blows le i (zDg np code i) (hbl le); show a + zMc kd wt fond hard blows le i (zDg np code i) ≤ _; omega) (by rw [← hE, show np - i = np - (i + 1) + 1 by omega, zMb, if_neg c_2]; rfl) (by omega) ls (lv_sub hl [0, 1, 2, 4, 5, 6] rfl)
  exact loop_8 _ 0 0 0 (Nat.zero_le _) (by omega) (by omega) (rfl) (Nat.lt_succ_self _) ls hl
