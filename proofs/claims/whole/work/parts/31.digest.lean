/-- numbers mixed one after another -/
def zMx (F : Nat → Int32) : Nat → Int64 → Int64
  | 0, h => h
  | n + 1, h => 31 * zMx F n h + (F n).toInt64
def zMxP (A T : Int32 → Int32 → Int32) (Fo : Int32 → Int32) (lessons : Nat) (num : Int32) (h : Int64) : Int64 := 31 * zMx (fun j => T num (nI j)) lessons (zMx (fun b => A num (nI (10 + b))) 3 (zMx (fun w => A num (nI w)) 5 h)) + (Fo num).toInt64
def zMxPs (A T : Int32 → Int32 → Int32) (Fo : Int32 → Int32) (lessons : Nat) : Nat → Int64 → Int64
  | 0, h => h
  | n + 1, h => zMxP A T Fo lessons (nI n) (zMxPs A T Fo lessons n h)
def zMxL1 (F : Int32 → Int32 → Int32) (G : Int32 → Int32 → Int32) (i : Nat) (h : Int64) : Int64 := 31 * (31 * zMx (fun w => F (nI i) (nI w)) 3 h + (G (nI i) 0).toInt64) + (G (nI i) 1).toInt64
def zMxL (F G : Int32 → Int32 → Int32) : Nat → Int64 → Int64
  | 0, h => h
  | n + 1, h => zMx (fun b => G (nI n) (nI (10 + b))) 3 (zMxL1 F G n (zMxL F G n h))
def zMxS (S : Int32 → Int32) (lessons : Nat) : Int64 := if 0 < lessons then zMx (fun b => S (nI b)) 3 877 else 877
def zDigest (S : Int32 → Int32) (F G A T : Int32 → Int32 → Int32) (Fo C : Int32 → Int32) (codes : Nat → Nat) (lessons np size : Nat) : Int64 :=
  zMx (fun w => C (nI w)) 9 (zMx (fun j => nI (codes j)) size (zMxPs A T Fo lessons np (zMxL F G lessons (zMxS S lessons))))
theorem zi_X10_mixPrince_X10 : ∀ w ∈ wsX100, w ∈ wsX10_mixPrince := fun _ h => List.mem_cons_of_mem _ (List.mem_append_left _ (List.mem_append_left _ (List.mem_append_left _ (List.mem_append_left _ (List.mem_append_left _ (List.mem_append_left _ (List.mem_append_left _ (List.mem_append_right _ (h)))))))))
theorem zi_X10_mixPrince_X9 : ∀ w ∈ wsX90, w ∈ wsX10_mixPrince := fun _ h => List.mem_cons_of_mem _ (List.mem_append_left _ (List.mem_append_left _ (List.mem_append_left _ (List.mem_append_left _ (List.mem_append_left _ (List.mem_append_left _ (List.mem_append_right _ (h))))))))
abbrev rm_X10_mixPrince : Room := { frames := 5, cells := 0, slots := 0, locals := 115 }
set_option maxHeartbeats 4000000 in
set_option maxRecDepth 100000 in
theorem c_X10_mixPrince (l : Launch) (D : va_G) (cI cB cP : ClassId) (x : Nat) (x_pg : Nat) (x_tx : Nat) (x_pr : Nat) (x_nw : Nat) (x_kp : Nat) (x_tr : Nat) (x_or : Nat) (x_bl : Nat) (hI : Nat) (tR : Nat) (tO : Nat) (np : Nat) (a1 : Nat) (a2 : Nat) (a3 : Nat) (a4 : Nat) (nh : Nat) (a5 : Nat) (a6 : Nat) (a7 : Nat) (t1 : Nat) (t2 : Nat) (lessons : Nat) (limit : Nat) (hard : Nat → Nat) (fond : Nat → Nat) (boys : Nat → Nat) (learnt : Nat → Nat) (qp : Nat → Nat) (ql : Nat → Nat) (qr : Nat → Nat) (pool : va_W) (pr : Nat → Option Nat) (kd : Nat → Nat) (wt : Nat → Nat) (h : Int64) (num : Int32) (hnp : np ≤ 3) (hpool : zPool pool pr kd wt np) (hkd : ∀ i, kd i < 5) (hwt : ∀ i, wt i ≤ 9) (hfo : ∀ i, fond i ≤ 9) (hby : ∀ i, boys i < 3) (hle : ∀ i, learnt i < 32) (hls : lessons ≤ 5) (hha : ∀ i, hard i ≤ 9) (hnh : nh ≤ 6) (hql : ∀ i, ql i < 5) (hqr : ∀ i, qr i < 2) (hqp : ∀ i, qp i < 3)  : zPl l D cI cB cP yX10_mixPrince wsX10_mixPrince rm_X10_mixPrince [.ref x, .long h, .int num] ([(x, .inr (10, [.ref x_pg, .ref x_tx, .ref x_pr, .ref x_nw, .ref x_kp, .ref x_tr, .ref x_or, .ref x_bl, .int (nI hI), .int (nI tR), .int (nI tO)])), (x_nw, .inr (8, [.int (nI np), .ref a1, .ref a2, .ref a3, .ref a4, .int (nI nh), .ref a5, .ref a6, .ref a7])), (x_pr, .inl (cP, 3, .inr (.inr (.inr (.inr (pr)))))), (x_tx, .inr (9, [.ref t1, .ref t2, .int (nI lessons), .int (nI limit)])), (t1, .inl (cI, 5, .inl (fun q_ => nI (hard q_)))), (a1, .inl (cI, 9, .inl (fun q_ => nI (fond q_)))), (a2, .inl (cI, 3, .inl (fun q_ => nI (boys q_)))), (a3, .inl (cI, 3, .inl (fun q_ => nI (learnt q_)))), (a5, .inl (cI, 6, .inl (fun q_ => nI (qp q_)))), (a6, .inl (cI, 6, .inl (fun q_ => nI (ql q_)))), (a7, .inl (cI, 6, .inl (fun q_ => nI (qr q_))))] ++ pool) (fun r => r = zMxP (zAbout np kd wt fond boys learnt) (zTenths np lessons kd wt fond boys hard) (zFondness qp ql qr hard kd wt np nh) lessons num h) := by
  refine zPl_of (cc := cX10_mixPrince) (maxL := 7) (by decide) rfl (Nat.le_of_ble_eq_true rfl) ?_
  intro p e s m args below meth c ls Q hx hb hml hts hown hP hK hN hl hret
  have hown : s.vm.findClass RX10 = some m.cls := hown
  have hl : lv_has ls 7 [(0, .ref x), (1, .long h), (3, .int num)] := hl
  refine lv_lload_n hx hb dX10_mixPrince_0 rfl (lv_at hl 1 rfl) ?_
  refine lv_lstore (lv' := [(4, .long h), (0, .ref x), (1, .long h), (3, .int num)]) hx hb dX10_mixPrince_1 hl (by decide) rfl (fun ls hl => ?_)
  refine lv_iconst (v := 0) hx hb dX10_mixPrince_3 (by decide) ?_
  refine lv_istore (lv' := [(6, .int 0), (4, .long h), (0, .ref x), (1, .long h), (3, .int num)]) hx hb dX10_mixPrince_4 hl (by decide) rfl (fun ls hl => ?_)
  have loop_6 : ∀ (fu_6 : Nat) (y1 : Int64) (i1 : Nat), (i1 ≤ 5) → (y1 = zMx (fun w => (zAbout np kd wt fond boys learnt) num (nI w)) i1 h) → 5 - i1 < fu_6 → ∀ (ls : Array Slot), lv_has ls 7 [(6, .int (nI i1)), (4, .long y1), (0, .ref x), (1, .long h), (3, .int num)] → W p l e rm_X10_mixPrince s m args below meth c s.heap [] 0 0 Q (F0 m 6 ls []) := by
    intro fu_6
    induction fu_6 with
    | zero => intro y1 i1 hi1 hy1 hn_6; exact absurd hn_6 (by omega)
    | succ fu_6 ih_6 =>
      intro y1 i1 hi1 hy1 hn_6 ls hl
      refine lv_iload hx hb dX10_mixPrince_6 (lv_at hl 0 rfl) ?_
      refine lv_iconst (v := 4) hx hb dX10_mixPrince_8 (by decide) ?_
      refine lv_icmp_gt (tgt := 33) hx hb dX10_mixPrince_9 (by decide) (fun c_1 => ?_) (fun c_1 => ?_)
      · skip
        have c_1 : 4 < i1 := (nI_ltI (a := 4) (b := i1) (by omega) (by omega)).mp c_1
        refine lv_iconst (v := 0) hx hb dX10_mixPrince_33 (by decide) ?_
        refine lv_istore (lv' := [(6, .int 0), (4, .long y1), (0, .ref x), (1, .long h), (3, .int num)]) hx hb dX10_mixPrince_34 hl (by decide) rfl (fun ls hl => ?_)
        have loop_36 : ∀ (fu_36 : Nat) (y2 : Int64) (i2 : Nat), (i2 ≤ 3) → (y2 = zMx (fun b => (zAbout np kd wt fond boys learnt) num (nI (10 + b))) i2 y1) → 3 - i2 < fu_36 → ∀ (ls : Array Slot), lv_has ls 7 [(6, .int (nI i2)), (4, .long y2), (0, .ref x), (1, .long h), (3, .int num)] → W p l e rm_X10_mixPrince s m args below meth c s.heap [] 0 0 Q (F0 m 36 ls []) := by
          intro fu_36
          induction fu_36 with
          | zero => intro y2 i2 hi2 hy2 hn_36; exact absurd hn_36 (by omega)
          | succ fu_36 ih_36 =>
            intro y2 i2 hi2 hy2 hn_36 ls hl
            refine lv_iload hx hb dX10_mixPrince_36 (lv_at hl 0 rfl) ?_
            refine lv_iconst (v := 3) hx hb dX10_mixPrince_38 (by decide) ?_
            refine lv_icmp_ge (tgt := 66) hx hb dX10_mixPrince_39 (by decide) (fun c_2 => ?_) (fun c_2 => ?_)
            · skip
              have c_2 : 3 ≤ i2 := (nI_leI (a := 3) (b := i2) (by omega) (by omega)).mp c_2
              refine lv_iconst (v := 0) hx hb dX10_mixPrince_66 (by decide) ?_
              refine lv_istore (lv' := [(6, .int 0), (4, .long y2), (0, .ref x), (1, .long h), (3, .int num)]) hx hb dX10_mixPrince_67 hl (by decide) rfl (fun ls hl => ?_)
              have loop_69 : ∀ (fu_69 : Nat) (y3 : Int64) (i3 : Nat), (i3 ≤ lessons) → (y3 = zMx (fun j => (zTenths np lessons kd wt fond boys hard) num (nI j)) i3 y2) → lessons - i3 < fu_69 → ∀ (ls : Array Slot), lv_has ls 7 [(6, .int (nI i3)), (4, .long y3), (0, .ref x), (1, .long h), (3, .int num)] → W p l e rm_X10_mixPrince s m args below meth c s.heap [] 0 0 Q (F0 m 69 ls []) := by
                intro fu_69
                induction fu_69 with
                | zero => intro y3 i3 hi3 hy3 hn_69; exact absurd hn_69 (by omega)
                | succ fu_69 ih_69 =>
                  intro y3 i3 hi3 hy3 hn_69 ls hl
                  refine lv_iload hx hb dX10_mixPrince_69 (lv_at hl 0 rfl) ?_
                  refine lv_aload_n hx hb dX10_mixPrince_71 rfl (lv_at hl 2 rfl) ?_
                  refine va_get (D := D) (ci := 10) (v := .ref x_tx) (C := RX10) (T := TX10) (N := 11) hx hb hts zi_X10_mixPrince_X10 hown hK hP 0 rfl rfl 1 (by decide) (hts (.fieldLink RX10 19 "BeatenInstead" "text" "LBeatenInstead$Text;") (List.mem_of_getElem? (i := 1) rfl)) (fun _ h9 => h9) rfl dX10_mixPrince_72 ?_
                  refine va_getN (D := D) (ci := 9) (v := .int (nI lessons)) (C := RX9) (T := TX9) (N := 4) hx hb hts zi_X10_mixPrince_X9 hown hK hP 3 rfl rfl 2 (by decide) (hN.w (w := .fieldLinkNest RX10 89 "BeatenInstead$Text" "lessons" "I" "BeatenInstead") 4 rfl rfl) (fun _ h9 => h9) rfl dX10_mixPrince_75 ?_
                  refine lv_icmp_ge (tgt := 102) hx hb dX10_mixPrince_78 (by decide) (fun c_3 => ?_) (fun c_3 => ?_)
                  · skip
                    have c_3 : lessons ≤ i3 := (nI_leI (a := lessons) (b := i3) (by omega) (by omega)).mp c_3
                    refine lv_lload hx hb dX10_mixPrince_102 (lv_at hl 1 rfl) ?_
                    refine lv_aload_n hx hb dX10_mixPrince_104 rfl (lv_at hl 2 rfl) ?_
                    refine lv_iload_n hx hb dX10_mixPrince_105 rfl (lv_at hl 4 rfl) ?_
                    refine vp_callSi (z_runV (b := x) (As := [.int num]) (rest := [.long y3]) hx hb hml hown hts hK hN hl.1 (c_X10_fondness l D cI cB cP x x_pg x_tx x_pr x_nw x_kp x_tr x_or x_bl hI tR tO np a1 a2 a3 a4 nh a5 a6 a7 t1 t2 lessons limit hard qp ql qr pool pr kd wt num (by first | assumption | omega) (by first | assumption | omega) (by first | assumption | omega) (by first | assumption | omega) (by first | assumption | omega) (by first | assumption | omega) (by first | assumption | omega) (by first | assumption | omega) (by first | assumption | omega)) gX10_mixPrince_X10_fondness rfl zd_X10_fondness rfl (Nat.le_of_ble_eq_true rfl) (Nat.le_of_ble_eq_true rfl) (va_P.app (va_P.sub (ws' := [(x, .inr (10, [.ref x_pg, .ref x_tx, .ref x_pr, .ref x_nw, .ref x_kp, .ref x_tr, .ref x_or, .ref x_bl, .int (nI hI), .int (nI tR), .int (nI tO)])), (x_nw, .inr (8, [.int (nI np), .ref a1, .ref a2, .ref a3, .ref a4, .int (nI nh), .ref a5, .ref a6, .ref a7])), (x_pr, .inl (cP, 3, .inr (.inr (.inr (.inr (pr)))))), (x_tx, .inr (9, [.ref t1, .ref t2, .int (nI lessons), .int (nI limit)])), (t1, .inl (cI, 5, .inl (fun q_ => nI (hard q_)))), (a5, .inl (cI, 6, .inl (fun q_ => nI (qp q_)))), (a6, .inl (cI, 6, .inl (fun q_ => nI (ql q_)))), (a7, .inl (cI, 6, .inl (fun q_ => nI (qr q_))))]) (z_pf hP) [0, 1, 2, 3, 4, 8, 9, 10] rfl) (z_pp hP)) (va_recv hK hP (ci := 10) (q0 := 0) rfl rfl) rfl (Nat.le_of_ble_eq_true rfl) dX10_mixPrince_106 ⟨Nat.zero_le _, Nat.zero_le _⟩) (fun r hr => ?_)
                    subst hr
                    refine lv_i2l (v := (zFondness qp ql qr hard kd wt np nh num).toInt64) hx hb dX10_mixPrince_109 rfl ?_
                    refine vp_callSl (z_runS (As := [.long y3, .long ((zFondness qp ql qr hard kd wt np nh num).toInt64)]) (rest := []) hx hb hml hown hts hK hN hl.1 (c_X10_mix l D cI cB cP y3 ((zFondness qp ql qr hard kd wt np nh num).toInt64)) gX10_mixPrince_X10_mix rfl zd_X10_mix rfl (Nat.le_of_ble_eq_true rfl) (Nat.le_of_ble_eq_true rfl) z_p0 rfl (Nat.le_of_ble_eq_true rfl) dX10_mixPrince_110 ⟨Nat.zero_le _, Nat.zero_le _⟩) (fun r hr => ?_)
                    subst hr
                    exact hret _ _ _ dX10_mixPrince_113 (by rw [hy3, hy2, hy1, show i3 = lessons by omega, show i2 = 3 by omega, show i1 = 5 by omega, zMxP])
                  · skip
                    have c_3 : ¬ (lessons ≤ i3) := (not_congr (nI_leI (a := lessons) (b := i3) (by omega) (by omega))).mp c_3
                    refine lv_lload hx hb dX10_mixPrince_81 (lv_at hl 1 rfl) ?_
                    refine lv_aload_n hx hb dX10_mixPrince_83 rfl (lv_at hl 2 rfl) ?_
                    refine lv_iload_n hx hb dX10_mixPrince_84 rfl (lv_at hl 4 rfl) ?_
                    refine lv_iload hx hb dX10_mixPrince_85 (lv_at hl 0 rfl) ?_
                    refine vp_callSi (z_runV (b := x) (As := [.int num, .int (nI i3)]) (rest := [.long y3]) hx hb hml hown hts hK hN hl.1 (c_X10_tenths l D cI cB cP x x_pg x_tx x_pr x_nw x_kp x_tr x_or x_bl hI tR tO np a1 a2 a3 a4 nh a5 a6 a7 t1 t2 lessons limit hard fond boys pool pr kd wt num (nI i3) (by first | assumption | omega) (by first | assumption | omega) (by first | assumption | omega) (by first | assumption | omega) (by first | assumption | omega) (by first | assumption | omega) (by first | assumption | omega) (by first | assumption | omega)) gX10_mixPrince_X10_tenths rfl zd_X10_tenths rfl (Nat.le_of_ble_eq_true rfl) (Nat.le_of_ble_eq_true rfl) (va_P.app (va_P.sub (ws' := [(x, .inr (10, [.ref x_pg, .ref x_tx, .ref x_pr, .ref x_nw, .ref x_kp, .ref x_tr, .ref x_or, .ref x_bl, .int (nI hI), .int (nI tR), .int (nI tO)])), (x_nw, .inr (8, [.int (nI np), .ref a1, .ref a2, .ref a3, .ref a4, .int (nI nh), .ref a5, .ref a6, .ref a7])), (x_pr, .inl (cP, 3, .inr (.inr (.inr (.inr (pr)))))), (x_tx, .inr (9, [.ref t1, .ref t2, .int (nI lessons), .int (nI limit)])), (t1, .inl (cI, 5, .inl (fun q_ => nI (hard q_)))), (a1, .inl (cI, 9, .inl (fun q_ => nI (fond q_)))), (a2, .inl (cI, 3, .inl (fun q_ => nI (boys q_))))]) (z_pf hP) [0, 1, 2, 3, 4, 5, 6] rfl) (z_pp hP)) (va_recv hK hP (ci := 10) (q0 := 0) rfl rfl) rfl (Nat.le_of_ble_eq_true rfl) dX10_mixPrince_87 ⟨Nat.zero_le _, Nat.zero_le _⟩) (fun r hr => ?_)
                    subst hr
                    refine lv_i2l (v := (zTenths np lessons kd wt fond boys hard num (nI i3)).toInt64) hx hb dX10_mixPrince_90 rfl ?_
                    refine vp_callSl (z_runS (As := [.long y3, .long ((zTenths np lessons kd wt fond boys hard num (nI i3)).toInt64)]) (rest := []) hx hb hml hown hts hK hN hl.1 (c_X10_mix l D cI cB cP y3 ((zTenths np lessons kd wt fond boys hard num (nI i3)).toInt64)) gX10_mixPrince_X10_mix rfl zd_X10_mix rfl (Nat.le_of_ble_eq_true rfl) (Nat.le_of_ble_eq_true rfl) z_p0 rfl (Nat.le_of_ble_eq_true rfl) dX10_mixPrince_91 ⟨Nat.zero_le _, Nat.zero_le _⟩) (fun r hr => ?_)
                    subst hr
                    refine lv_lstore (lv' := [(4, .long (31 * y3 + ((zTenths np lessons kd wt fond boys hard num (nI i3)).toInt64))), (6, .int (nI i3)), (0, .ref x), (1, .long h), (3, .int num)]) hx hb dX10_mixPrince_94 hl (by decide) rfl (fun ls hl => ?_)
                    refine lv_iinc (v := nI (i3 + 1)) (lv' := [(6, .int (nI (i3 + 1))), (4, .long (31 * y3 + ((zTenths np lessons kd wt fond boys hard num (nI i3)).toInt64))), (0, .ref x), (1, .long h), (3, .int num)]) hx hb dX10_mixPrince_96 hl (k := 1) rfl (nI_add (i3) 1) (by decide) rfl (fun ls hl => ?_)
                    refine lv_goto (tgt := 69) hx hb dX10_mixPrince_99 (by decide) ?_
                    exact ih_69 (31 * y3 + ((zTenths np lessons kd wt fond boys hard num (nI i3)).toInt64)) (i3 + 1) (by omega) (by rw [zMx, hy3]) (by omega) ls hl
              exact loop_69 _ y2 0 (Nat.zero_le _) (rfl) (Nat.lt_succ_self _) ls hl
            · skip
              have c_2 : ¬ (3 ≤ i2) := (not_congr (nI_leI (a := 3) (b := i2) (by omega) (by omega))).mp c_2
              refine lv_lload hx hb dX10_mixPrince_42 (lv_at hl 1 rfl) ?_
              refine lv_aload_n hx hb dX10_mixPrince_44 rfl (lv_at hl 2 rfl) ?_
              refine lv_iload_n hx hb dX10_mixPrince_45 rfl (lv_at hl 4 rfl) ?_
              refine lv_bipush (v := (10)) hx hb dX10_mixPrince_46 (by decide) ?_
              refine lv_iload hx hb dX10_mixPrince_48 (lv_at hl 0 rfl) ?_
              refine lv_iadd hx hb dX10_mixPrince_50 ?_
              refine z_top (show (10 + (nI i2)) = nI (10 + i2) from nI_add 10 i2) ?_
              refine vp_callSi (z_runV (b := x) (As := [.int num, .int (nI (10 + i2))]) (rest := [.long y2]) hx hb hml hown hts hK hN hl.1 (c_X10_about l D cI cB cP x x_pg x_tx x_pr x_nw x_kp x_tr x_or x_bl hI tR tO np a1 a2 a3 a4 nh a5 a6 a7 fond boys learnt pool pr kd wt num (nI (10 + i2)) (by first | assumption | omega) (by first | assumption | omega) (by first | assumption | omega) (by first | assumption | omega) (by first | assumption | omega) (by first | assumption | omega) (by first | assumption | omega)) gX10_mixPrince_X10_about rfl zd_X10_about rfl (Nat.le_of_ble_eq_true rfl) (Nat.le_of_ble_eq_true rfl) (va_P.app (va_P.sub (ws' := [(x, .inr (10, [.ref x_pg, .ref x_tx, .ref x_pr, .ref x_nw, .ref x_kp, .ref x_tr, .ref x_or, .ref x_bl, .int (nI hI), .int (nI tR), .int (nI tO)])), (x_nw, .inr (8, [.int (nI np), .ref a1, .ref a2, .ref a3, .ref a4, .int (nI nh), .ref a5, .ref a6, .ref a7])), (x_pr, .inl (cP, 3, .inr (.inr (.inr (.inr (pr)))))), (a1, .inl (cI, 9, .inl (fun q_ => nI (fond q_)))), (a2, .inl (cI, 3, .inl (fun q_ => nI (boys q_)))), (a3, .inl (cI, 3, .inl (fun q_ => nI (learnt q_))))]) (z_pf hP) [0, 1, 2, 5, 6, 7] rfl) (z_pp hP)) (va_recv hK hP (ci := 10) (q0 := 0) rfl rfl) rfl (Nat.le_of_ble_eq_true rfl) dX10_mixPrince_51 ⟨Nat.zero_le _, Nat.zero_le _⟩) (fun r hr => ?_)
              subst hr
              refine lv_i2l (v := (zAbout np kd wt fond boys learnt num (nI (10 + i2))).toInt64) hx hb dX10_mixPrince_54 rfl ?_
              refine vp_callSl (z_runS (As := [.long y2, .long ((zAbout np kd wt fond boys learnt num (nI (10 + i2))).toInt64)]) (rest := []) hx hb hml hown hts hK hN hl.1 (c_X10_mix l D cI cB cP y2 ((zAbout np kd wt fond boys learnt num (nI (10 + i2))).toInt64)) gX10_mixPrince_X10_mix rfl zd_X10_mix rfl (Nat.le_of_ble_eq_true rfl) (Nat.le_of_ble_eq_true rfl) z_p0 rfl (Nat.le_of_ble_eq_true rfl) dX10_mixPrince_55 ⟨Nat.zero_le _, Nat.zero_le _⟩) (fun r hr => ?_)
              subst hr
              refine lv_lstore (lv' := [(4, .long (31 * y2 + ((zAbout np kd wt fond boys learnt num (nI (10 + i2))).toInt64))), (6, .int (nI i2)), (0, .ref x), (1, .long h), (3, .int num)]) hx hb dX10_mixPrince_58 hl (by decide) rfl (fun ls hl => ?_)
              refine lv_iinc (v := nI (i2 + 1)) (lv' := [(6, .int (nI (i2 + 1))), (4, .long (31 * y2 + ((zAbout np kd wt fond boys learnt num (nI (10 + i2))).toInt64))), (0, .ref x), (1, .long h), (3, .int num)]) hx hb dX10_mixPrince_60 hl (k := 1) rfl (nI_add (i2) 1) (by decide) rfl (fun ls hl => ?_)
              refine lv_goto (tgt := 36) hx hb dX10_mixPrince_63 (by decide) ?_
              exact ih_36 (31 * y2 + ((zAbout np kd wt fond boys learnt num (nI (10 + i2))).toInt64)) (i2 + 1) (by omega) (by rw [zMx, hy2]) (by omega) ls hl
        exact loop_36 _ y1 0 (Nat.zero_le _) (rfl) (Nat.lt_succ_self _) ls hl
      · skip
        have c_1 : ¬ (4 < i1) := (not_congr (nI_ltI (a := 4) (b := i1) (by omega) (by omega))).mp c_1
        refine lv_lload hx hb dX10_mixPrince_12 (lv_at hl 1 rfl) ?_
        refine lv_aload_n hx hb dX10_mixPrince_14 rfl (lv_at hl 2 rfl) ?_
        refine lv_iload_n hx hb dX10_mixPrince_15 rfl (lv_at hl 4 rfl) ?_
        refine lv_iload hx hb dX10_mixPrince_16 (lv_at hl 0 rfl) ?_
        refine vp_callSi (z_runV (b := x) (As := [.int num, .int (nI i1)]) (rest := [.long y1]) hx hb hml hown hts hK hN hl.1 (c_X10_about l D cI cB cP x x_pg x_tx x_pr x_nw x_kp x_tr x_or x_bl hI tR tO np a1 a2 a3 a4 nh a5 a6 a7 fond boys learnt pool pr kd wt num (nI i1) (by first | assumption | omega) (by first | assumption | omega) (by first | assumption | omega) (by first | assumption | omega) (by first | assumption | omega) (by first | assumption | omega) (by first | assumption | omega)) gX10_mixPrince_X10_about rfl zd_X10_about rfl (Nat.le_of_ble_eq_true rfl) (Nat.le_of_ble_eq_true rfl) (va_P.app (va_P.sub (ws' := [(x, .inr (10, [.ref x_pg, .ref x_tx, .ref x_pr, .ref x_nw, .ref x_kp, .ref x_tr, .ref x_or, .ref x_bl, .int (nI hI), .int (nI tR), .int (nI tO)])), (x_nw, .inr (8, [.int (nI np), .ref a1, .ref a2, .ref a3, .ref a4, .int (nI nh), .ref a5, .ref a6, .ref a7])), (x_pr, .inl (cP, 3, .inr (.inr (.inr (.inr (pr)))))), (a1, .inl (cI, 9, .inl (fun q_ => nI (fond q_)))), (a2, .inl (cI, 3, .inl (fun q_ => nI (boys q_)))), (a3, .inl (cI, 3, .inl (fun q_ => nI (learnt q_))))]) (z_pf hP) [0, 1, 2, 5, 6, 7] rfl) (z_pp hP)) (va_recv hK hP (ci := 10) (q0 := 0) rfl rfl) rfl (Nat.le_of_ble_eq_true rfl) dX10_mixPrince_18 ⟨Nat.zero_le _, Nat.zero_le _⟩) (fun r hr => ?_)
        subst hr
        refine lv_i2l (v := (zAbout np kd wt fond boys learnt num (nI i1)).toInt64) hx hb dX10_mixPrince_21 rfl ?_
        refine vp_callSl (z_runS (As := [.long y1, .long ((zAbout np kd wt fond boys learnt num (nI i1)).toInt64)]) (rest := []) hx hb hml hown hts hK hN hl.1 (c_X10_mix l D cI cB cP y1 ((zAbout np kd wt fond boys learnt num (nI i1)).toInt64)) gX10_mixPrince_X10_mix rfl zd_X10_mix rfl (Nat.le_of_ble_eq_true rfl) (Nat.le_of_ble_eq_true rfl) z_p0 rfl (Nat.le_of_ble_eq_true rfl) dX10_mixPrince_22 ⟨Nat.zero_le _, Nat.zero_le _⟩) (fun r hr => ?_)
        subst hr
        refine lv_lstore (lv' := [(4, .long (31 * y1 + ((zAbout np kd wt fond boys learnt num (nI i1)).toInt64))), (6, .int (nI i1)), (0, .ref x), (1, .long h), (3, .int num)]) hx hb dX10_mixPrince_25 hl (by decide) rfl (fun ls hl => ?_)
        refine lv_iinc (v := nI (i1 + 1)) (lv' := [(6, .int (nI (i1 + 1))), (4, .long (31 * y1 + ((zAbout np kd wt fond boys learnt num (nI i1)).toInt64))), (0, .ref x), (1, .long h), (3, .int num)]) hx hb dX10_mixPrince_27 hl (k := 1) rfl (nI_add (i1) 1) (by decide) rfl (fun ls hl => ?_)
        refine lv_goto (tgt := 6) hx hb dX10_mixPrince_30 (by decide) ?_
        exact ih_6 (31 * y1 + ((zAbout np kd wt fond boys learnt num (nI i1)).toInt64)) (i1 + 1) (by omega) (by rw [zMx, hy1]) (by omega) ls hl
  exact loop_6 _ h 0 (Nat.zero_le _) (rfl) (Nat.lt_succ_self _) ls hl

theorem zi_X10_digest_X10 : ∀ w ∈ wsX100, w ∈ wsX10_digest := fun _ h => List.mem_cons_of_mem _ (List.mem_append_left _ (List.mem_append_left _ (List.mem_append_left _ (List.mem_append_left _ (List.mem_append_left _ (List.mem_append_left _ (List.mem_append_left _ (List.mem_append_left _ (List.mem_append_right _ (h))))))))))
theorem zi_X10_digest_X5 : ∀ w ∈ wsX50, w ∈ wsX10_digest := fun _ h => List.mem_cons_of_mem _ (List.mem_append_left _ (List.mem_append_left _ (List.mem_append_left _ (List.mem_append_left _ (List.mem_append_left _ (List.mem_append_right _ (h)))))))
theorem zi_X10_digest_X8 : ∀ w ∈ wsX80, w ∈ wsX10_digest := fun _ h => List.mem_cons_of_mem _ (List.mem_append_left _ (List.mem_append_left _ (List.mem_append_left _ (List.mem_append_left _ (List.mem_append_left _ (List.mem_append_left _ (List.mem_append_right _ (h))))))))
theorem zi_X10_digest_X9 : ∀ w ∈ wsX90, w ∈ wsX10_digest := fun _ h => List.mem_cons_of_mem _ (List.mem_append_left _ (List.mem_append_left _ (List.mem_append_left _ (List.mem_append_left _ (List.mem_append_left _ (List.mem_append_left _ (List.mem_append_left _ (List.mem_append_right _ (h)))))))))
abbrev rm_X10_digest : Room := { frames := 6, cells := 0, slots := 0, locals := 142 }
set_option maxHeartbeats 4000000 in
set_option maxRecDepth 100000 in
theorem c_X10_digest (l : Launch) (D : va_G) (cI cB cP : ClassId) (bM : Nat) (x : Nat) (x_pg : Nat) (x_tx : Nat) (x_pr : Nat) (x_nw : Nat) (x_kp : Nat) (x_tr : Nat) (x_or : Nat) (x_bl : Nat) (hI : Nat) (tR : Nat) (tO : Nat) (np : Nat) (a1 : Nat) (a2 : Nat) (a3 : Nat) (a4 : Nat) (nh : Nat) (a5 : Nat) (a6 : Nat) (a7 : Nat) (t1 : Nat) (t2 : Nat) (lessons : Nat) (limit : Nat) (g1 : Nat) (size : Nat) (codes : Nat → Nat) (hard : Nat → Nat) (blows : Nat → Nat) (fond : Nat → Nat) (boys : Nat → Nat) (learnt : Nat → Nat) (stripes : Nat → Int32) (qp : Nat → Nat) (ql : Nat → Nat) (qr : Nat → Nat) (pool : va_W) (pr : Nat → Option Nat) (kd : Nat → Nat) (wt : Nat → Nat) (hnp : np ≤ 3) (hpool : zPool pool pr kd wt np) (hkd : ∀ i, kd i < 5) (hwt : ∀ i, wt i ≤ 9) (hfo : ∀ i, fond i ≤ 9) (hby : ∀ i, boys i < 3) (hle : ∀ i, learnt i < 32) (hls : lessons ≤ 5) (hha : ∀ i, hard i ≤ 9) (hnh : nh ≤ 6) (hql : ∀ i, ql i < 5) (hqr : ∀ i, qr i < 2) (hqp : ∀ i, qp i < 3) (hbl : ∀ i, blows i ≤ 9) (hsz : size ≤ 18) (hco : ∀ i, codes i < 127)  : zPlM l D cI cB cP bM yX10_digest wsX10_digest rm_X10_digest [.ref x] ([(x, .inr (10, [.ref x_pg, .ref x_tx, .ref x_pr, .ref x_nw, .ref x_kp, .ref x_tr, .ref x_or, .ref x_bl, .int (nI hI), .int (nI tR), .int (nI tO)])), (x_nw, .inr (8, [.int (nI np), .ref a1, .ref a2, .ref a3, .ref a4, .int (nI nh), .ref a5, .ref a6, .ref a7])), (x_pr, .inl (cP, 3, .inr (.inr (.inr (.inr (pr)))))), (x_tx, .inr (9, [.ref t1, .ref t2, .int (nI lessons), .int (nI limit)])), (t1, .inl (cI, 5, .inl (fun q_ => nI (hard q_)))), (t2, .inl (cI, 5, .inl (fun q_ => nI (blows q_)))), (x_pg, .inr (5, [.ref g1, .int (nI size)])), (g1, .inl (cI, 18, .inl (fun q_ => nI (codes q_)))), (a1, .inl (cI, 9, .inl (fun q_ => nI (fond q_)))), (a2, .inl (cI, 3, .inl (fun q_ => nI (boys q_)))), (a3, .inl (cI, 3, .inl (fun q_ => nI (learnt q_)))), (a4, .inl (cI, 3, .inl (stripes))), (a5, .inl (cI, 6, .inl (fun q_ => nI (qp q_)))), (a6, .inl (cI, 6, .inl (fun q_ => nI (ql q_)))), (a7, .inl (cI, 6, .inl (fun q_ => nI (qr q_))))] ++ pool) (fun r => r = zDigest (zStripes lessons stripes) (zLesson lessons hard blows learnt np) (zMatch kd wt fond hard blows np lessons) (zAbout np kd wt fond boys learnt) (zTenths np lessons kd wt fond boys hard) (zFondness qp ql qr hard kd wt np nh) (zCount lessons limit np stripes learnt nh size tR tO) codes lessons np size) := by
  refine zPlM_of (cc := cX10_digest) (maxL := 5) (by decide) rfl (Nat.le_of_ble_eq_true rfl) ?_
  intro p e s m args below meth c ls Q hx hb hml hts hown hP hK hN hM hl hret
  have hown : s.vm.findClass RX10 = some m.cls := hown
  have hl : lv_has ls 5 [(0, .ref x)] := hl
  refine lv_ldc2 (v := (877)) hx hb hown (hts (.constantLong RX10 259 (877)) (List.mem_of_getElem? (i := 1) rfl)) dX10_digest_0 ?_
  refine lv_lstore_n (lv' := [(1, .long 877), (0, .ref x)]) hx hb dX10_digest_3 rfl hl (by decide) rfl (fun ls hl => ?_)
  refine lv_iconst (v := 0) hx hb dX10_digest_4 (by decide) ?_
  refine lv_istore_n (lv' := [(3, .int 0), (1, .long 877), (0, .ref x)]) hx hb dX10_digest_5 rfl hl (by decide) rfl (fun ls hl => ?_)
  have loop_6 : ∀ (fu_6 : Nat) (y1 : Int64) (i1 : Nat), (i1 ≤ 3) → (y1 = zMx (fun b => (zStripes lessons stripes) (nI b)) i1 877) → (i1 = 0 ∨ 0 < lessons) → 3 - i1 < fu_6 → ∀ (ls : Array Slot), lv_has ls 5 [(3, .int (nI i1)), (1, .long y1), (0, .ref x)] → W p l e rm_X10_digest s m args below meth c s.heap [] 0 0 Q (F0 m 6 ls []) := by
    intro fu_6
    induction fu_6 with
    | zero => intro y1 i1 hi1 hy1 hz1 hn_6; exact absurd hn_6 (by omega)
    | succ fu_6 ih_6 =>
      intro y1 i1 hi1 hy1 hz1 hn_6 ls hl
      refine lv_aload_n hx hb dX10_digest_6 rfl (lv_at hl 2 rfl) ?_
      refine va_get (D := D) (ci := 10) (v := .ref x_tx) (C := RX10) (T := TX10) (N := 11) hx hb hts zi_X10_digest_X10 hown hK hP 0 rfl rfl 1 (by decide) (hts (.fieldLink RX10 19 "BeatenInstead" "text" "LBeatenInstead$Text;") (List.mem_of_getElem? (i := 2) rfl)) (fun _ h9 => h9) rfl dX10_digest_7 ?_
      refine vp_callSi (z_runVN (b := x_tx) (As := []) (rest := []) hx hb hml hown hts hK hN hl.1 (c_X9_isRead l D cI cB cP x_tx t1 t2 lessons limit (by first | assumption | omega)) gX10_digest_X9_isRead_n106 rfl 39 rfl (List.mem_of_getElem? (i := 6) rfl) (List.mem_of_getElem? (i := 5) rfl) (List.mem_of_getElem? (i := 7) rfl) zd_X9_isRead rfl (Nat.le_of_ble_eq_true rfl) (Nat.le_of_ble_eq_true rfl) (va_P.sub (ws' := [(x_tx, .inr (9, [.ref t1, .ref t2, .int (nI lessons), .int (nI limit)]))]) (z_pf hP) [3] rfl) (va_recv hK hP (ci := 9) (q0 := 3) rfl rfl) rfl (Nat.le_of_ble_eq_true rfl) dX10_digest_10 ⟨Nat.zero_le _, Nat.zero_le _⟩) (fun r hr => ?_)
      rcases hr with ⟨rfl, c_1⟩ | ⟨rfl, c_1⟩
      · skip
        refine lv_if_eq (tgt := 38) hx hb dX10_digest_13 (by decide) (fun c => absurd c (by decide)) (fun _ => ?_)
        refine lv_iload_n hx hb dX10_digest_16 rfl (lv_at hl 0 rfl) ?_
        refine lv_iconst (v := 3) hx hb dX10_digest_17 (by decide) ?_
        refine lv_icmp_ge (tgt := 38) hx hb dX10_digest_18 (by decide) (fun c_2 => ?_) (fun c_2 => ?_)
        · skip
          have c_2 : 3 ≤ i1 := (nI_leI (a := 3) (b := i1) (by omega) (by omega)).mp c_2
          refine lv_iconst (v := 0) hx hb dX10_digest_38 (by decide) ?_
          refine lv_istore_n (lv' := [(3, .int 0), (1, .long y1), (0, .ref x)]) hx hb dX10_digest_39 rfl hl (by decide) rfl (fun ls hl => ?_)
          have loop_40 : ∀ (fu_40 : Nat) (y2 : Int64) (i2 : Nat), (i2 ≤ lessons) → (y2 = zMxL (zLesson lessons hard blows learnt np) (zMatch kd wt fond hard blows np lessons) i2 (zMxS (zStripes lessons stripes) lessons)) → lessons - i2 < fu_40 → ∀ (ls : Array Slot), lv_has ls 5 [(3, .int (nI i2)), (1, .long y2), (0, .ref x)] → W p l e rm_X10_digest s m args below meth c s.heap [] 0 0 Q (F0 m 40 ls []) := by
            intro fu_40
            induction fu_40 with
            | zero => intro y2 i2 hi2 hy2 hn_40; exact absurd hn_40 (by omega)
            | succ fu_40 ih_40 =>
              intro y2 i2 hi2 hy2 hn_40 ls hl
              refine lv_iload_n hx hb dX10_digest_40 rfl (lv_at hl 0 rfl) ?_
              refine lv_aload_n hx hb dX10_digest_41 rfl (lv_at hl 2 rfl) ?_
              refine va_get (D := D) (ci := 10) (v := .ref x_tx) (C := RX10) (T := TX10) (N := 11) hx hb hts zi_X10_digest_X10 hown hK hP 0 rfl rfl 1 (by decide) (hts (.fieldLink RX10 19 "BeatenInstead" "text" "LBeatenInstead$Text;") (List.mem_of_getElem? (i := 2) rfl)) (fun _ h9 => h9) rfl dX10_digest_42 ?_
              refine va_getN (D := D) (ci := 9) (v := .int (nI lessons)) (C := RX9) (T := TX9) (N := 4) hx hb hts zi_X10_digest_X9 hown hK hP 3 rfl rfl 2 (by decide) (hN.w (w := .fieldLinkNest RX10 89 "BeatenInstead$Text" "lessons" "I" "BeatenInstead") 4 rfl rfl) (fun _ h9 => h9) rfl dX10_digest_45 ?_
              refine lv_icmp_ge (tgt := 138) hx hb dX10_digest_48 (by decide) (fun c_3 => ?_) (fun c_3 => ?_)
              · skip
                have c_3 : lessons ≤ i2 := (nI_leI (a := lessons) (b := i2) (by omega) (by omega)).mp c_3
                refine lv_iconst (v := 0) hx hb dX10_digest_138 (by decide) ?_
                refine lv_istore_n (lv' := [(3, .int 0), (1, .long y2), (0, .ref x)]) hx hb dX10_digest_139 rfl hl (by decide) rfl (fun ls hl => ?_)
                have loop_140 : ∀ (fu_140 : Nat) (y5 : Int64) (i5 : Nat), (i5 ≤ np) → (y5 = zMxPs (zAbout np kd wt fond boys learnt) (zTenths np lessons kd wt fond boys hard) (zFondness qp ql qr hard kd wt np nh) lessons i5 y2) → np - i5 < fu_140 → ∀ (ls : Array Slot), lv_has ls 5 [(3, .int (nI i5)), (1, .long y5), (0, .ref x)] → W p l e rm_X10_digest s m args below meth c s.heap [] 0 0 Q (F0 m 140 ls []) := by
                  intro fu_140
                  induction fu_140 with
                  | zero => intro y5 i5 hi5 hy5 hn_140; exact absurd hn_140 (by omega)
                  | succ fu_140 ih_140 =>
                    intro y5 i5 hi5 hy5 hn_140 ls hl
                    refine lv_iload_n hx hb dX10_digest_140 rfl (lv_at hl 0 rfl) ?_
                    refine lv_aload_n hx hb dX10_digest_141 rfl (lv_at hl 2 rfl) ?_
                    refine va_get (D := D) (ci := 10) (v := .ref x_nw) (C := RX10) (T := TX10) (N := 11) hx hb hts zi_X10_digest_X10 hown hK hP 0 rfl rfl 3 (by decide) (hts (.fieldLink RX10 32 "BeatenInstead" "now" "LBeatenInstead$Standing;") (List.mem_of_getElem? (i := 3) rfl)) (fun _ h9 => h9) rfl dX10_digest_142 ?_
                    refine va_getN (D := D) (ci := 8) (v := .int (nI np)) (C := RX8) (T := TX8) (N := 9) hx hb hts zi_X10_digest_X8 hown hK hP 1 rfl rfl 0 (by decide) (hN.w (w := .fieldLinkNest RX10 118 "BeatenInstead$Standing" "princes" "I" "BeatenInstead") 8 rfl rfl) (fun _ h9 => h9) rfl dX10_digest_145 ?_
                    refine lv_icmp_ge (tgt := 164) hx hb dX10_digest_148 (by decide) (fun c_4 => ?_) (fun c_4 => ?_)
                    · skip
                      have c_4 : np ≤ i5 := (nI_leI (a := np) (b := i5) (by omega) (by omega)).mp c_4
                      refine lv_iconst (v := 0) hx hb dX10_digest_164 (by decide) ?_
                      refine lv_istore_n (lv' := [(3, .int 0), (1, .long y5), (0, .ref x)]) hx hb dX10_digest_165 rfl hl (by decide) rfl (fun ls hl => ?_)
                      have loop_166 : ∀ (fu_166 : Nat) (y6 : Int64) (i6 : Nat), (i6 ≤ size) → (y6 = zMx (fun j => nI (codes j)) i6 y5) → size - i6 < fu_166 → ∀ (ls : Array Slot), lv_has ls 5 [(3, .int (nI i6)), (1, .long y6), (0, .ref x)] → W p l e rm_X10_digest s m args below meth c s.heap [] 0 0 Q (F0 m 166 ls []) := by
                        intro fu_166
                        induction fu_166 with
                        | zero => intro y6 i6 hi6 hy6 hn_166; exact absurd hn_166 (by omega)
                        | succ fu_166 ih_166 =>
                          intro y6 i6 hi6 hy6 hn_166 ls hl
                          have hci := hco i6
                          refine lv_iload_n hx hb dX10_digest_166 rfl (lv_at hl 0 rfl) ?_
                          refine lv_aload_n hx hb dX10_digest_167 rfl (lv_at hl 2 rfl) ?_
                          refine va_get (D := D) (ci := 10) (v := .ref x_pg) (C := RX10) (T := TX10) (N := 11) hx hb hts zi_X10_digest_X10 hown hK hP 0 rfl rfl 0 (by decide) (hts (.fieldLink RX10 12 "BeatenInstead" "page" "LBeatenInstead$Page;") (List.mem_of_getElem? (i := 4) rfl)) (fun _ h9 => h9) rfl dX10_digest_168 ?_
                          refine va_getN (D := D) (ci := 5) (v := .int (nI size)) (C := RX5) (T := TX5) (N := 2) hx hb hts zi_X10_digest_X5 hown hK hP 6 rfl rfl 1 (by decide) (hN.w (w := .fieldLinkNest RX10 67 "BeatenInstead$Page" "size" "I" "BeatenInstead") 1 rfl rfl) (fun _ h9 => h9) rfl dX10_digest_171 ?_
                          refine lv_icmp_ge (tgt := 197) hx hb dX10_digest_174 (by decide) (fun c_5 => ?_) (fun c_5 => ?_)
                          · skip
                            have c_5 : size ≤ i6 := (nI_leI (a := size) (b := i6) (by omega) (by omega)).mp c_5
                            refine lv_iconst (v := 0) hx hb dX10_digest_197 (by decide) ?_
                            refine lv_istore_n (lv' := [(3, .int 0), (1, .long y6), (0, .ref x)]) hx hb dX10_digest_198 rfl hl (by decide) rfl (fun ls hl => ?_)
                            have loop_199 : ∀ (fu_199 : Nat) (y7 : Int64) (i7 : Nat), (i7 ≤ 9) → (y7 = zMx (fun w => (zCount lessons limit np stripes learnt nh size tR tO) (nI w)) i7 y6) → 9 - i7 < fu_199 → ∀ (ls : Array Slot), lv_has ls 5 [(3, .int (nI i7)), (1, .long y7), (0, .ref x)] → W p l e rm_X10_digest s m args below meth c s.heap [] 0 0 Q (F0 m 199 ls []) := by
                              intro fu_199
                              induction fu_199 with
                              | zero => intro y7 i7 hi7 hy7 hn_199; exact absurd hn_199 (by omega)
                              | succ fu_199 ih_199 =>
                                intro y7 i7 hi7 hy7 hn_199 ls hl
                                refine lv_iload_n hx hb dX10_digest_199 rfl (lv_at hl 0 rfl) ?_
                                refine lv_bipush (v := (9)) hx hb dX10_digest_200 (by decide) ?_
                                refine lv_icmp_ge (tgt := 222) hx hb dX10_digest_202 (by decide) (fun c_6 => ?_) (fun c_6 => ?_)
                                · skip
                                  have c_6 : 9 ≤ i7 := (nI_leI (a := 9) (b := i7) (by omega) (by omega)).mp c_6
                                  refine lv_lload_n hx hb dX10_digest_222 rfl (lv_at hl 1 rfl) ?_
                                  exact hret _ _ _ dX10_digest_223 (by rw [zDigest, hy7, hy6, hy5, hy2, show i7 = 9 by omega, show i6 = size by omega, show i5 = np by omega, show i2 = lessons by omega])
                                · skip
                                  have c_6 : ¬ (9 ≤ i7) := (not_congr (nI_leI (a := 9) (b := i7) (by omega) (by omega))).mp c_6
                                  refine lv_lload_n hx hb dX10_digest_205 rfl (lv_at hl 1 rfl) ?_
                                  refine lv_aload_n hx hb dX10_digest_206 rfl (lv_at hl 2 rfl) ?_
                                  refine lv_iload_n hx hb dX10_digest_207 rfl (lv_at hl 0 rfl) ?_
                                  refine vp_callSi (z_runV (b := x) (As := [.int (nI i7)]) (rest := [.long y7]) hx hb hml hown hts hK hN hl.1 (c_X10_count l D cI cB cP x x_pg x_tx x_pr x_nw x_kp x_tr x_or x_bl hI tR tO np a1 a2 a3 a4 nh a5 a6 a7 t1 t2 lessons limit g1 size stripes learnt (nI i7) (by first | assumption | omega) (by first | assumption | omega)) gX10_digest_X10_count rfl zd_X10_count rfl (Nat.le_of_ble_eq_true rfl) (Nat.le_of_ble_eq_true rfl) (va_P.sub (ws' := [(x, .inr (10, [.ref x_pg, .ref x_tx, .ref x_pr, .ref x_nw, .ref x_kp, .ref x_tr, .ref x_or, .ref x_bl, .int (nI hI), .int (nI tR), .int (nI tO)])), (x_tx, .inr (9, [.ref t1, .ref t2, .int (nI lessons), .int (nI limit)])), (x_nw, .inr (8, [.int (nI np), .ref a1, .ref a2, .ref a3, .ref a4, .int (nI nh), .ref a5, .ref a6, .ref a7])), (x_pg, .inr (5, [.ref g1, .int (nI size)])), (a4, .inl (cI, 3, .inl (stripes))), (a3, .inl (cI, 3, .inl (fun q_ => nI (learnt q_))))]) (z_pf hP) [0, 3, 1, 6, 11, 10] rfl) (va_recv hK hP (ci := 10) (q0 := 0) rfl rfl) rfl (Nat.le_of_ble_eq_true rfl) dX10_digest_208 ⟨Nat.zero_le _, Nat.zero_le _⟩) (fun r hr => ?_)
                                  subst hr
                                  refine lv_i2l (v := (zCount lessons limit np stripes learnt nh size tR tO (nI i7)).toInt64) hx hb dX10_digest_211 rfl ?_
                                  refine vp_callSl (z_runS (As := [.long y7, .long ((zCount lessons limit np stripes learnt nh size tR tO (nI i7)).toInt64)]) (rest := []) hx hb hml hown hts hK hN hl.1 (c_X10_mix l D cI cB cP y7 ((zCount lessons limit np stripes learnt nh size tR tO (nI i7)).toInt64)) gX10_digest_X10_mix rfl zd_X10_mix rfl (Nat.le_of_ble_eq_true rfl) (Nat.le_of_ble_eq_true rfl) z_p0 rfl (Nat.le_of_ble_eq_true rfl) dX10_digest_212 ⟨Nat.zero_le _, Nat.zero_le _⟩) (fun r hr => ?_)
                                  subst hr
                                  refine lv_lstore_n (lv' := [(1, .long (31 * y7 + ((zCount lessons limit np stripes learnt nh size tR tO (nI i7)).toInt64))), (3, .int (nI i7)), (0, .ref x)]) hx hb dX10_digest_215 rfl hl (by decide) rfl (fun ls hl => ?_)
                                  refine lv_iinc (v := nI (i7 + 1)) (lv' := [(3, .int (nI (i7 + 1))), (1, .long (31 * y7 + ((zCount lessons limit np stripes learnt nh size tR tO (nI i7)).toInt64))), (0, .ref x)]) hx hb dX10_digest_216 hl (k := 1) rfl (nI_add (i7) 1) (by decide) rfl (fun ls hl => ?_)
                                  refine lv_goto (tgt := 199) hx hb dX10_digest_219 (by decide) ?_
                                  exact ih_199 (31 * y7 + ((zCount lessons limit np stripes learnt nh size tR tO (nI i7)).toInt64)) (i7 + 1) (by omega) (by rw [zMx, hy7]) (by omega) ls hl
                            exact loop_199 _ y6 0 (Nat.zero_le _) (rfl) (Nat.lt_succ_self _) ls hl
                          · skip
                            have c_5 : ¬ (size ≤ i6) := (not_congr (nI_leI (a := size) (b := i6) (by omega) (by omega))).mp c_5
                            refine lv_lload_n hx hb dX10_digest_177 rfl (lv_at hl 1 rfl) ?_
                            refine lv_aload_n hx hb dX10_digest_178 rfl (lv_at hl 2 rfl) ?_
                            refine va_get (D := D) (ci := 10) (v := .ref x_pg) (C := RX10) (T := TX10) (N := 11) hx hb hts zi_X10_digest_X10 hown hK hP 0 rfl rfl 0 (by decide) (hts (.fieldLink RX10 12 "BeatenInstead" "page" "LBeatenInstead$Page;") (List.mem_of_getElem? (i := 4) rfl)) (fun _ h9 => h9) rfl dX10_digest_179 ?_
                            refine lv_iload_n hx hb dX10_digest_182 rfl (lv_at hl 0 rfl) ?_
                            refine vp_callSi (z_runVN (b := x_pg) (As := [.int (nI i6)]) (rest := [.long y6]) hx hb hml hown hts hK hN hl.1 (c_X5_codeAt l D cI cB cP x_pg g1 size codes i6 (by first | assumption | omega)) gX10_digest_X5_codeAt_n278 rfl 75 rfl (List.mem_of_getElem? (i := 182) rfl) (List.mem_of_getElem? (i := 181) rfl) (List.mem_of_getElem? (i := 183) rfl) zd_X5_codeAt rfl (Nat.le_of_ble_eq_true rfl) (Nat.le_of_ble_eq_true rfl) (va_P.sub (ws' := [(x_pg, .inr (5, [.ref g1, .int (nI size)])), (g1, .inl (cI, 18, .inl (fun q_ => nI (codes q_))))]) (z_pf hP) [6, 7] rfl) (va_recv hK hP (ci := 5) (q0 := 6) rfl rfl) rfl (Nat.le_of_ble_eq_true rfl) dX10_digest_183 ⟨Nat.zero_le _, Nat.zero_le _⟩) (fun r hr => ?_)
                            subst hr
                            refine lv_i2l (v := lN (codes i6)) hx hb dX10_digest_186 (nI_l (by omega)) ?_
                            refine vp_callSl (z_runS (As := [.long y6, .long (lN (codes i6))]) (rest := []) hx hb hml hown hts hK hN hl.1 (c_X10_mix l D cI cB cP y6 (lN (codes i6))) gX10_digest_X10_mix rfl zd_X10_mix rfl (Nat.le_of_ble_eq_true rfl) (Nat.le_of_ble_eq_true rfl) z_p0 rfl (Nat.le_of_ble_eq_true rfl) dX10_digest_187 ⟨Nat.zero_le _, Nat.zero_le _⟩) (fun r hr => ?_)
                            subst hr
                            refine lv_lstore_n (lv' := [(1, .long (31 * y6 + (lN (codes i6)))), (3, .int (nI i6)), (0, .ref x)]) hx hb dX10_digest_190 rfl hl (by decide) rfl (fun ls hl => ?_)
                            refine lv_iinc (v := nI (i6 + 1)) (lv' := [(3, .int (nI (i6 + 1))), (1, .long (31 * y6 + (lN (codes i6)))), (0, .ref x)]) hx hb dX10_digest_191 hl (k := 1) rfl (nI_add (i6) 1) (by decide) rfl (fun ls hl => ?_)
                            refine lv_goto (tgt := 166) hx hb dX10_digest_194 (by decide) ?_
                            exact ih_166 (31 * y6 + (lN (codes i6))) (i6 + 1) (by omega) (by rw [zMx, hy6, nI_l (by omega)]) (by omega) ls hl
                      exact loop_166 _ y5 0 (Nat.zero_le _) (rfl) (Nat.lt_succ_self _) ls hl
                    · skip
                      have c_4 : ¬ (np ≤ i5) := (not_congr (nI_leI (a := np) (b := i5) (by omega) (by omega))).mp c_4
                      refine lv_aload_n hx hb dX10_digest_151 rfl (lv_at hl 2 rfl) ?_
                      refine lv_lload_n hx hb dX10_digest_152 rfl (lv_at hl 1 rfl) ?_
                      refine lv_iload_n hx hb dX10_digest_153 rfl (lv_at hl 0 rfl) ?_
                      refine vp_callSl (z_runV (b := x) (As := [.long y5, .int (nI i5)]) (rest := []) hx hb hml hown hts hK hN hl.1 (c_X10_mixPrince l D cI cB cP x x_pg x_tx x_pr x_nw x_kp x_tr x_or x_bl hI tR tO np a1 a2 a3 a4 nh a5 a6 a7 t1 t2 lessons limit hard fond boys learnt qp ql qr pool pr kd wt y5 (nI i5) (by first | assumption | omega) (by first | assumption | omega) (by first | assumption | omega) (by first | assumption | omega) (by first | assumption | omega) (by first | assumption | omega) (by first | assumption | omega) (by first | assumption | omega) (by first | assumption | omega) (by first | assumption | omega) (by first | assumption | omega) (by first | assumption | omega) (by first | assumption | omega)) gX10_digest_X10_mixPrince rfl zd_X10_mixPrince rfl (Nat.le_of_ble_eq_true rfl) (Nat.le_of_ble_eq_true rfl) (va_P.app (va_P.sub (ws' := [(x, .inr (10, [.ref x_pg, .ref x_tx, .ref x_pr, .ref x_nw, .ref x_kp, .ref x_tr, .ref x_or, .ref x_bl, .int (nI hI), .int (nI tR), .int (nI tO)])), (x_nw, .inr (8, [.int (nI np), .ref a1, .ref a2, .ref a3, .ref a4, .int (nI nh), .ref a5, .ref a6, .ref a7])), (x_pr, .inl (cP, 3, .inr (.inr (.inr (.inr (pr)))))), (x_tx, .inr (9, [.ref t1, .ref t2, .int (nI lessons), .int (nI limit)])), (t1, .inl (cI, 5, .inl (fun q_ => nI (hard q_)))), (a1, .inl (cI, 9, .inl (fun q_ => nI (fond q_)))), (a2, .inl (cI, 3, .inl (fun q_ => nI (boys q_)))), (a3, .inl (cI, 3, .inl (fun q_ => nI (learnt q_)))), (a5, .inl (cI, 6, .inl (fun q_ => nI (qp q_)))), (a6, .inl (cI, 6, .inl (fun q_ => nI (ql q_)))), (a7, .inl (cI, 6, .inl (fun q_ => nI (qr q_))))]) (z_pf hP) [0, 1, 2, 3, 4, 8, 9, 10, 12, 13, 14] rfl) (z_pp hP)) (va_recv hK hP (ci := 10) (q0 := 0) rfl rfl) rfl (Nat.le_of_ble_eq_true rfl) dX10_digest_154 ⟨Nat.zero_le _, Nat.zero_le _⟩) (fun r hr => ?_)
                      subst hr
                      refine lv_lstore_n (lv' := [(1, .long (zMxP (zAbout np kd wt fond boys learnt) (zTenths np lessons kd wt fond boys hard) (zFondness qp ql qr hard kd wt np nh) lessons (nI i5) y5)), (3, .int (nI i5)), (0, .ref x)]) hx hb dX10_digest_157 rfl hl (by decide) rfl (fun ls hl => ?_)
                      refine lv_iinc (v := nI (i5 + 1)) (lv' := [(3, .int (nI (i5 + 1))), (1, .long (zMxP (zAbout np kd wt fond boys learnt) (zTenths np lessons kd wt fond boys hard) (zFondness qp ql qr hard kd wt np nh) lessons (nI i5) y5)), (0, .ref x)]) hx hb dX10_digest_158 hl (k := 1) rfl (nI_add (i5) 1) (by decide) rfl (fun ls hl => ?_)
                      refine lv_goto (tgt := 140) hx hb dX10_digest_161 (by decide) ?_
                      exact ih_140 (zMxP (zAbout np kd wt fond boys learnt) (zTenths np lessons kd wt fond boys hard) (zFondness qp ql qr hard kd wt np nh) lessons (nI i5) y5) (i5 + 1) (by omega) (by rw [zMxPs, ← hy5]) (by omega) ls hl
                exact loop_140 _ y2 0 (Nat.zero_le _) (rfl) (Nat.lt_succ_self _) ls hl
              · skip
                have c_3 : ¬ (lessons ≤ i2) := (not_congr (nI_leI (a := lessons) (b := i2) (by omega) (by omega))).mp c_3
                refine lv_iconst (v := 0) hx hb dX10_digest_51 (by decide) ?_
                refine lv_istore (lv' := [(4, .int 0), (3, .int (nI i2)), (1, .long y2), (0, .ref x)]) hx hb dX10_digest_52 hl (by decide) rfl (fun ls hl => ?_)
                have loop_54 : ∀ (fu_54 : Nat) (y3 : Int64) (i3 : Nat), (i3 ≤ 3) → (y3 = zMx (fun w => (zLesson lessons hard blows learnt np) (nI i2) (nI w)) i3 y2) → 3 - i3 < fu_54 → ∀ (ls : Array Slot), lv_has ls 5 [(4, .int (nI i3)), (3, .int (nI i2)), (1, .long y3), (0, .ref x)] → W p l e rm_X10_digest s m args below meth c s.heap [] 0 0 Q (F0 m 54 ls []) := by
                  intro fu_54
                  induction fu_54 with
                  | zero => intro y3 i3 hi3 hy3 hn_54; exact absurd hn_54 (by omega)
                  | succ fu_54 ih_54 =>
                    intro y3 i3 hi3 hy3 hn_54 ls hl
                    refine lv_iload hx hb dX10_digest_54 (lv_at hl 0 rfl) ?_
                    refine lv_iconst (v := 2) hx hb dX10_digest_56 (by decide) ?_
                    refine lv_icmp_gt (tgt := 79) hx hb dX10_digest_57 (by decide) (fun c_4 => ?_) (fun c_4 => ?_)
                    · skip
                      have c_4 : 2 < i3 := (nI_ltI (a := 2) (b := i3) (by omega) (by omega)).mp c_4
                      refine lv_lload_n hx hb dX10_digest_79 rfl (lv_at hl 2 rfl) ?_
                      refine lv_aload_n hx hb dX10_digest_80 rfl (lv_at hl 3 rfl) ?_
                      refine lv_iload_n hx hb dX10_digest_81 rfl (lv_at hl 1 rfl) ?_
                      refine lv_iconst (v := 0) hx hb dX10_digest_82 (by decide) ?_
                      refine vp_callSi (z_runVM (b := x) (As := [.int (nI i2), .int 0]) (rest := [.long y3]) hx hb hml hown hts hK hN hl.1 (c_X10_match l D cI cB cP bM x x_pg x_tx x_pr x_nw x_kp x_tr x_or x_bl hI tR tO np a1 a2 a3 a4 nh a5 a6 a7 t1 t2 lessons limit hard blows fond pool pr kd wt (nI i2) 0 (by first | assumption | omega) (by first | assumption | omega) (by first | assumption | omega) (by first | assumption | omega) (by first | assumption | omega) (by first | assumption | omega) (by first | assumption | omega) (by first | assumption | omega)) hM gX10_digest_X10_match rfl zd_X10_match rfl (Nat.le_of_ble_eq_true rfl) (Nat.le_of_ble_eq_true rfl) (va_P.app (va_P.sub (ws' := [(x, .inr (10, [.ref x_pg, .ref x_tx, .ref x_pr, .ref x_nw, .ref x_kp, .ref x_tr, .ref x_or, .ref x_bl, .int (nI hI), .int (nI tR), .int (nI tO)])), (x_nw, .inr (8, [.int (nI np), .ref a1, .ref a2, .ref a3, .ref a4, .int (nI nh), .ref a5, .ref a6, .ref a7])), (x_pr, .inl (cP, 3, .inr (.inr (.inr (.inr (pr)))))), (x_tx, .inr (9, [.ref t1, .ref t2, .int (nI lessons), .int (nI limit)])), (t1, .inl (cI, 5, .inl (fun q_ => nI (hard q_)))), (t2, .inl (cI, 5, .inl (fun q_ => nI (blows q_)))), (a1, .inl (cI, 9, .inl (fun q_ => nI (fond q_))))]) (z_pf hP) [0, 1, 2, 3, 4, 5, 8] rfl) (z_pp hP)) (va_recv hK hP (ci := 10) (q0 := 0) rfl rfl) rfl (Nat.le_of_ble_eq_true rfl) dX10_digest_83 ⟨Nat.zero_le _, Nat.zero_le _⟩) (fun r hr => ?_)
                      subst hr
                      refine lv_i2l (v := (zMatch kd wt fond hard blows np lessons (nI i2) 0).toInt64) hx hb dX10_digest_86 rfl ?_
                      refine vp_callSl (z_runS (As := [.long y3, .long ((zMatch kd wt fond hard blows np lessons (nI i2) 0).toInt64)]) (rest := []) hx hb hml hown hts hK hN hl.1 (c_X10_mix l D cI cB cP y3 ((zMatch kd wt fond hard blows np lessons (nI i2) 0).toInt64)) gX10_digest_X10_mix rfl zd_X10_mix rfl (Nat.le_of_ble_eq_true rfl) (Nat.le_of_ble_eq_true rfl) z_p0 rfl (Nat.le_of_ble_eq_true rfl) dX10_digest_87 ⟨Nat.zero_le _, Nat.zero_le _⟩) (fun r hr => ?_)
                      subst hr
                      refine lv_aload_n hx hb dX10_digest_90 rfl (lv_at hl 3 rfl) ?_
                      refine lv_iload_n hx hb dX10_digest_91 rfl (lv_at hl 1 rfl) ?_
                      refine lv_iconst (v := 1) hx hb dX10_digest_92 (by decide) ?_
                      refine vp_callSi (z_runVM (b := x) (As := [.int (nI i2), .int 1]) (rest := [.long (31 * y3 + ((zMatch kd wt fond hard blows np lessons (nI i2) 0).toInt64))]) hx hb hml hown hts hK hN hl.1 (c_X10_match l D cI cB cP bM x x_pg x_tx x_pr x_nw x_kp x_tr x_or x_bl hI tR tO np a1 a2 a3 a4 nh a5 a6 a7 t1 t2 lessons limit hard blows fond pool pr kd wt (nI i2) 1 (by first | assumption | omega) (by first | assumption | omega) (by first | assumption | omega) (by first | assumption | omega) (by first | assumption | omega) (by first | assumption | omega) (by first | assumption | omega) (by first | assumption | omega)) hM gX10_digest_X10_match rfl zd_X10_match rfl (Nat.le_of_ble_eq_true rfl) (Nat.le_of_ble_eq_true rfl) (va_P.app (va_P.sub (ws' := [(x, .inr (10, [.ref x_pg, .ref x_tx, .ref x_pr, .ref x_nw, .ref x_kp, .ref x_tr, .ref x_or, .ref x_bl, .int (nI hI), .int (nI tR), .int (nI tO)])), (x_nw, .inr (8, [.int (nI np), .ref a1, .ref a2, .ref a3, .ref a4, .int (nI nh), .ref a5, .ref a6, .ref a7])), (x_pr, .inl (cP, 3, .inr (.inr (.inr (.inr (pr)))))), (x_tx, .inr (9, [.ref t1, .ref t2, .int (nI lessons), .int (nI limit)])), (t1, .inl (cI, 5, .inl (fun q_ => nI (hard q_)))), (t2, .inl (cI, 5, .inl (fun q_ => nI (blows q_)))), (a1, .inl (cI, 9, .inl (fun q_ => nI (fond q_))))]) (z_pf hP) [0, 1, 2, 3, 4, 5, 8] rfl) (z_pp hP)) (va_recv hK hP (ci := 10) (q0 := 0) rfl rfl) rfl (Nat.le_of_ble_eq_true rfl) dX10_digest_93 ⟨Nat.zero_le _, Nat.zero_le _⟩) (fun r hr => ?_)
                      subst hr
                      refine lv_i2l (v := (zMatch kd wt fond hard blows np lessons (nI i2) 1).toInt64) hx hb dX10_digest_96 rfl ?_
                      refine vp_callSl (z_runS (As := [.long (31 * y3 + ((zMatch kd wt fond hard blows np lessons (nI i2) 0).toInt64)), .long ((zMatch kd wt fond hard blows np lessons (nI i2) 1).toInt64)]) (rest := []) hx hb hml hown hts hK hN hl.1 (c_X10_mix l D cI cB cP (31 * y3 + ((zMatch kd wt fond hard blows np lessons (nI i2) 0).toInt64)) ((zMatch kd wt fond hard blows np lessons (nI i2) 1).toInt64)) gX10_digest_X10_mix rfl zd_X10_mix rfl (Nat.le_of_ble_eq_true rfl) (Nat.le_of_ble_eq_true rfl) z_p0 rfl (Nat.le_of_ble_eq_true rfl) dX10_digest_97 ⟨Nat.zero_le _, Nat.zero_le _⟩) (fun r hr => ?_)
                      subst hr
                      refine lv_lstore_n (lv' := [(1, .long (31 * (31 * y3 + ((zMatch kd wt fond hard blows np lessons (nI i2) 0).toInt64)) + ((zMatch kd wt fond hard blows np lessons (nI i2) 1).toInt64))), (4, .int (nI i3)), (3, .int (nI i2)), (0, .ref x)]) hx hb dX10_digest_100 rfl hl (by decide) rfl (fun ls hl => ?_)
                      refine lv_iconst (v := 0) hx hb dX10_digest_101 (by decide) ?_
                      refine lv_istore (lv' := [(4, .int 0), (1, .long (31 * (31 * y3 + ((zMatch kd wt fond hard blows np lessons (nI i2) 0).toInt64)) + ((zMatch kd wt fond hard blows np lessons (nI i2) 1).toInt64))), (3, .int (nI i2)), (0, .ref x)]) hx hb dX10_digest_102 hl (by decide) rfl (fun ls hl => ?_)
                      have loop_104 : ∀ (fu_104 : Nat) (y4 : Int64) (i4 : Nat), (i4 ≤ 3) → (y4 = zMx (fun b => (zMatch kd wt fond hard blows np lessons) (nI i2) (nI (10 + b))) i4 (31 * (31 * y3 + ((zMatch kd wt fond hard blows np lessons) (nI i2) 0).toInt64) + ((zMatch kd wt fond hard blows np lessons) (nI i2) 1).toInt64)) → 3 - i4 < fu_104 → ∀ (ls : Array Slot), lv_has ls 5 [(4, .int (nI i4)), (1, .long y4), (3, .int (nI i2)), (0, .ref x)] → W p l e rm_X10_digest s m args below meth c s.heap [] 0 0 Q (F0 m 104 ls []) := by
                        intro fu_104
                        induction fu_104 with
                        | zero => intro y4 i4 hi4 hy4 hn_104; exact absurd hn_104 (by omega)
                        | succ fu_104 ih_104 =>
                          intro y4 i4 hi4 hy4 hn_104 ls hl
                          refine lv_iload hx hb dX10_digest_104 (lv_at hl 0 rfl) ?_
                          refine lv_iconst (v := 3) hx hb dX10_digest_106 (by decide) ?_
                          refine lv_icmp_ge (tgt := 132) hx hb dX10_digest_107 (by decide) (fun c_5 => ?_) (fun c_5 => ?_)
                          · skip
                            have c_5 : 3 ≤ i4 := (nI_leI (a := 3) (b := i4) (by omega) (by omega)).mp c_5
                            refine lv_iinc (v := nI (i2 + 1)) (lv' := [(3, .int (nI (i2 + 1))), (4, .int (nI i4)), (1, .long y4), (0, .ref x)]) hx hb dX10_digest_132 hl (k := 2) rfl (nI_add (i2) 1) (by decide) rfl (fun ls hl => ?_)
                            refine lv_goto (tgt := 40) hx hb dX10_digest_135 (by decide) ?_
                            exact ih_40 y4 (i2 + 1) (by omega) (by rw [zMxL, ← hy2, zMxL1, ← show i4 = 3 by omega, ← show i3 = i4 by omega, ← hy3, show i3 = i4 by omega]; exact hy4) (by omega) ls (lv_sub hl [0, 2, 3] rfl)
                          · skip
                            have c_5 : ¬ (3 ≤ i4) := (not_congr (nI_leI (a := 3) (b := i4) (by omega) (by omega))).mp c_5
                            refine lv_lload_n hx hb dX10_digest_110 rfl (lv_at hl 1 rfl) ?_
                            refine lv_aload_n hx hb dX10_digest_111 rfl (lv_at hl 3 rfl) ?_
                            refine lv_iload_n hx hb dX10_digest_112 rfl (lv_at hl 2 rfl) ?_
                            refine lv_bipush (v := (10)) hx hb dX10_digest_113 (by decide) ?_
                            refine lv_iload hx hb dX10_digest_115 (lv_at hl 0 rfl) ?_
                            refine lv_iadd hx hb dX10_digest_117 ?_
                            refine z_top (show (10 + (nI i4)) = nI (10 + i4) from nI_add 10 i4) ?_
                            refine vp_callSi (z_runVM (b := x) (As := [.int (nI i2), .int (nI (10 + i4))]) (rest := [.long y4]) hx hb hml hown hts hK hN hl.1 (c_X10_match l D cI cB cP bM x x_pg x_tx x_pr x_nw x_kp x_tr x_or x_bl hI tR tO np a1 a2 a3 a4 nh a5 a6 a7 t1 t2 lessons limit hard blows fond pool pr kd wt (nI i2) (nI (10 + i4)) (by first | assumption | omega) (by first | assumption | omega) (by first | assumption | omega) (by first | assumption | omega) (by first | assumption | omega) (by first | assumption | omega) (by first | assumption | omega) (by first | assumption | omega)) hM gX10_digest_X10_match rfl zd_X10_match rfl (Nat.le_of_ble_eq_true rfl) (Nat.le_of_ble_eq_true rfl) (va_P.app (va_P.sub (ws' := [(x, .inr (10, [.ref x_pg, .ref x_tx, .ref x_pr, .ref x_nw, .ref x_kp, .ref x_tr, .ref x_or, .ref x_bl, .int (nI hI), .int (nI tR), .int (nI tO)])), (x_nw, .inr (8, [.int (nI np), .ref a1, .ref a2, .ref a3, .ref a4, .int (nI nh), .ref a5, .ref a6, .ref a7])), (x_pr, .inl (cP, 3, .inr (.inr (.inr (.inr (pr)))))), (x_tx, .inr (9, [.ref t1, .ref t2, .int (nI lessons), .int (nI limit)])), (t1, .inl (cI, 5, .inl (fun q_ => nI (hard q_)))), (t2, .inl (cI, 5, .inl (fun q_ => nI (blows q_)))), (a1, .inl (cI, 9, .inl (fun q_ => nI (fond q_))))]) (z_pf hP) [0, 1, 2, 3, 4, 5, 8] rfl) (z_pp hP)) (va_recv hK hP (ci := 10) (q0 := 0) rfl rfl) rfl (Nat.le_of_ble_eq_true rfl) dX10_digest_118 ⟨Nat.zero_le _, Nat.zero_le _⟩) (fun r hr => ?_)
                            subst hr
                            refine lv_i2l (v := (zMatch kd wt fond hard blows np lessons (nI i2) (nI (10 + i4))).toInt64) hx hb dX10_digest_121 rfl ?_
                            refine vp_callSl (z_runS (As := [.long y4, .long ((zMatch kd wt fond hard blows np lessons (nI i2) (nI (10 + i4))).toInt64)]) (rest := []) hx hb hml hown hts hK hN hl.1 (c_X10_mix l D cI cB cP y4 ((zMatch kd wt fond hard blows np lessons (nI i2) (nI (10 + i4))).toInt64)) gX10_digest_X10_mix rfl zd_X10_mix rfl (Nat.le_of_ble_eq_true rfl) (Nat.le_of_ble_eq_true rfl) z_p0 rfl (Nat.le_of_ble_eq_true rfl) dX10_digest_122 ⟨Nat.zero_le _, Nat.zero_le _⟩) (fun r hr => ?_)
                            subst hr
                            refine lv_lstore_n (lv' := [(1, .long (31 * y4 + ((zMatch kd wt fond hard blows np lessons (nI i2) (nI (10 + i4))).toInt64))), (4, .int (nI i4)), (3, .int (nI i2)), (0, .ref x)]) hx hb dX10_digest_125 rfl hl (by decide) rfl (fun ls hl => ?_)
                            refine lv_iinc (v := nI (i4 + 1)) (lv' := [(4, .int (nI (i4 + 1))), (1, .long (31 * y4 + ((zMatch kd wt fond hard blows np lessons (nI i2) (nI (10 + i4))).toInt64))), (3, .int (nI i2)), (0, .ref x)]) hx hb dX10_digest_126 hl (k := 1) rfl (nI_add (i4) 1) (by decide) rfl (fun ls hl => ?_)
                            refine lv_goto (tgt := 104) hx hb dX10_digest_129 (by decide) ?_
                            exact ih_104 (31 * y4 + ((zMatch kd wt fond hard blows np lessons (nI i2) (nI (10 + i4))).toInt64)) (i4 + 1) (by omega) (by rw [zMx, hy4]) (by omega) ls hl
                      exact loop_104 _ (31 * (31 * y3 + ((zMatch kd wt fond hard blows np lessons (nI i2) 0).toInt64)) + ((zMatch kd wt fond hard blows np lessons (nI i2) 1).toInt64)) 0 (Nat.zero_le _) (rfl) (Nat.lt_succ_self _) ls hl
                    · skip
                      have c_4 : ¬ (2 < i3) := (not_congr (nI_ltI (a := 2) (b := i3) (by omega) (by omega))).mp c_4
                      refine lv_lload_n hx hb dX10_digest_60 rfl (lv_at hl 2 rfl) ?_
                      refine lv_aload_n hx hb dX10_digest_61 rfl (lv_at hl 3 rfl) ?_
                      refine lv_iload_n hx hb dX10_digest_62 rfl (lv_at hl 1 rfl) ?_
                      refine lv_iload hx hb dX10_digest_63 (lv_at hl 0 rfl) ?_
                      refine vp_callSi (z_runV (b := x) (As := [.int (nI i2), .int (nI i3)]) (rest := [.long y3]) hx hb hml hown hts hK hN hl.1 (c_X10_lesson l D cI cB cP x x_pg x_tx x_pr x_nw x_kp x_tr x_or x_bl hI tR tO np a1 a2 a3 a4 nh a5 a6 a7 t1 t2 lessons limit hard blows learnt (nI i2) (nI i3) (by first | assumption | omega) (by first | assumption | omega) (by first | assumption | omega)) gX10_digest_X10_lesson rfl zd_X10_lesson rfl (Nat.le_of_ble_eq_true rfl) (Nat.le_of_ble_eq_true rfl) (va_P.sub (ws' := [(x, .inr (10, [.ref x_pg, .ref x_tx, .ref x_pr, .ref x_nw, .ref x_kp, .ref x_tr, .ref x_or, .ref x_bl, .int (nI hI), .int (nI tR), .int (nI tO)])), (x_tx, .inr (9, [.ref t1, .ref t2, .int (nI lessons), .int (nI limit)])), (t1, .inl (cI, 5, .inl (fun q_ => nI (hard q_)))), (t2, .inl (cI, 5, .inl (fun q_ => nI (blows q_)))), (x_nw, .inr (8, [.int (nI np), .ref a1, .ref a2, .ref a3, .ref a4, .int (nI nh), .ref a5, .ref a6, .ref a7])), (a3, .inl (cI, 3, .inl (fun q_ => nI (learnt q_))))]) (z_pf hP) [0, 3, 4, 5, 1, 10] rfl) (va_recv hK hP (ci := 10) (q0 := 0) rfl rfl) rfl (Nat.le_of_ble_eq_true rfl) dX10_digest_65 ⟨Nat.zero_le _, Nat.zero_le _⟩) (fun r hr => ?_)
                      subst hr
                      refine lv_i2l (v := (zLesson lessons hard blows learnt np (nI i2) (nI i3)).toInt64) hx hb dX10_digest_68 rfl ?_
                      refine vp_callSl (z_runS (As := [.long y3, .long ((zLesson lessons hard blows learnt np (nI i2) (nI i3)).toInt64)]) (rest := []) hx hb hml hown hts hK hN hl.1 (c_X10_mix l D cI cB cP y3 ((zLesson lessons hard blows learnt np (nI i2) (nI i3)).toInt64)) gX10_digest_X10_mix rfl zd_X10_mix rfl (Nat.le_of_ble_eq_true rfl) (Nat.le_of_ble_eq_true rfl) z_p0 rfl (Nat.le_of_ble_eq_true rfl) dX10_digest_69 ⟨Nat.zero_le _, Nat.zero_le _⟩) (fun r hr => ?_)
                      subst hr
                      refine lv_lstore_n (lv' := [(1, .long (31 * y3 + ((zLesson lessons hard blows learnt np (nI i2) (nI i3)).toInt64))), (4, .int (nI i3)), (3, .int (nI i2)), (0, .ref x)]) hx hb dX10_digest_72 rfl hl (by decide) rfl (fun ls hl => ?_)
                      refine lv_iinc (v := nI (i3 + 1)) (lv' := [(4, .int (nI (i3 + 1))), (1, .long (31 * y3 + ((zLesson lessons hard blows learnt np (nI i2) (nI i3)).toInt64))), (3, .int (nI i2)), (0, .ref x)]) hx hb dX10_digest_73 hl (k := 1) rfl (nI_add (i3) 1) (by decide) rfl (fun ls hl => ?_)
                      refine lv_goto (tgt := 54) hx hb dX10_digest_76 (by decide) ?_
                      exact ih_54 (31 * y3 + ((zLesson lessons hard blows learnt np (nI i2) (nI i3)).toInt64)) (i3 + 1) (by omega) (by rw [zMx, hy3]) (by omega) ls (lv_sub hl [0, 2, 1, 3] rfl)
                exact loop_54 _ y2 0 (Nat.zero_le _) (rfl) (Nat.lt_succ_self _) ls hl
          exact loop_40 _ y1 0 (Nat.zero_le _) (by show y1 = zMxS _ _; rw [hy1, zMxS]; first | rw [if_pos (by omega), show i1 = 3 by omega] | (rw [if_neg (by omega), show i1 = 0 by omega]; rfl)) (Nat.lt_succ_self _) ls hl
        · skip
          have c_2 : ¬ (3 ≤ i1) := (not_congr (nI_leI (a := 3) (b := i1) (by omega) (by omega))).mp c_2
          refine lv_lload_n hx hb dX10_digest_21 rfl (lv_at hl 1 rfl) ?_
          refine lv_aload_n hx hb dX10_digest_22 rfl (lv_at hl 2 rfl) ?_
          refine lv_iload_n hx hb dX10_digest_23 rfl (lv_at hl 0 rfl) ?_
          refine vp_callSi (z_runV (b := x) (As := [.int (nI i1)]) (rest := [.long y1]) hx hb hml hown hts hK hN hl.1 (c_X10_stripes l D cI cB cP x x_pg x_tx x_pr x_nw x_kp x_tr x_or x_bl hI tR tO np a1 a2 a3 a4 nh a5 a6 a7 t1 t2 lessons limit stripes (nI i1) (by first | assumption | omega)) gX10_digest_X10_stripes rfl zd_X10_stripes rfl (Nat.le_of_ble_eq_true rfl) (Nat.le_of_ble_eq_true rfl) (va_P.sub (ws' := [(x, .inr (10, [.ref x_pg, .ref x_tx, .ref x_pr, .ref x_nw, .ref x_kp, .ref x_tr, .ref x_or, .ref x_bl, .int (nI hI), .int (nI tR), .int (nI tO)])), (x_tx, .inr (9, [.ref t1, .ref t2, .int (nI lessons), .int (nI limit)])), (x_nw, .inr (8, [.int (nI np), .ref a1, .ref a2, .ref a3, .ref a4, .int (nI nh), .ref a5, .ref a6, .ref a7])), (a4, .inl (cI, 3, .inl (stripes)))]) (z_pf hP) [0, 3, 1, 11] rfl) (va_recv hK hP (ci := 10) (q0 := 0) rfl rfl) rfl (Nat.le_of_ble_eq_true rfl) dX10_digest_24 ⟨Nat.zero_le _, Nat.zero_le _⟩) (fun r hr => ?_)
          subst hr
          refine lv_i2l (v := (zStripes lessons stripes (nI i1)).toInt64) hx hb dX10_digest_27 rfl ?_
          refine vp_callSl (z_runS (As := [.long y1, .long ((zStripes lessons stripes (nI i1)).toInt64)]) (rest := []) hx hb hml hown hts hK hN hl.1 (c_X10_mix l D cI cB cP y1 ((zStripes lessons stripes (nI i1)).toInt64)) gX10_digest_X10_mix rfl zd_X10_mix rfl (Nat.le_of_ble_eq_true rfl) (Nat.le_of_ble_eq_true rfl) z_p0 rfl (Nat.le_of_ble_eq_true rfl) dX10_digest_28 ⟨Nat.zero_le _, Nat.zero_le _⟩) (fun r hr => ?_)
          subst hr
          refine lv_lstore_n (lv' := [(1, .long (31 * y1 + ((zStripes lessons stripes (nI i1)).toInt64))), (3, .int (nI i1)), (0, .ref x)]) hx hb dX10_digest_31 rfl hl (by decide) rfl (fun ls hl => ?_)
          refine lv_iinc (v := nI (i1 + 1)) (lv' := [(3, .int (nI (i1 + 1))), (1, .long (31 * y1 + ((zStripes lessons stripes (nI i1)).toInt64))), (0, .ref x)]) hx hb dX10_digest_32 hl (k := 1) rfl (nI_add (i1) 1) (by decide) rfl (fun ls hl => ?_)
          refine lv_goto (tgt := 6) hx hb dX10_digest_35 (by decide) ?_
          exact ih_6 (31 * y1 + ((zStripes lessons stripes (nI i1)).toInt64)) (i1 + 1) (by omega) (by rw [zMx, hy1]) (Or.inr (by omega)) (by omega) ls hl
      · skip
        refine lv_if_eq (tgt := 38) hx hb dX10_digest_13 (by decide) (fun _ => ?_) (fun c => absurd c (by decide))
        refine lv_iconst (v := 0) hx hb dX10_digest_38 (by decide) ?_
        refine lv_istore_n (lv' := [(3, .int 0), (1, .long y1), (0, .ref x)]) hx hb dX10_digest_39 rfl hl (by decide) rfl (fun ls hl => ?_)
        have loop_40 : ∀ (fu_40 : Nat) (y2 : Int64) (i2 : Nat), (i2 ≤ lessons) → (y2 = zMxL (zLesson lessons hard blows learnt np) (zMatch kd wt fond hard blows np lessons) i2 (zMxS (zStripes lessons stripes) lessons)) → lessons - i2 < fu_40 → ∀ (ls : Array Slot), lv_has ls 5 [(3, .int (nI i2)), (1, .long y2), (0, .ref x)] → W p l e rm_X10_digest s m args below meth c s.heap [] 0 0 Q (F0 m 40 ls []) := by
          intro fu_40
          induction fu_40 with
          | zero => intro y2 i2 hi2 hy2 hn_40; exact absurd hn_40 (by omega)
          | succ fu_40 ih_40 =>
            intro y2 i2 hi2 hy2 hn_40 ls hl
            refine lv_iload_n hx hb dX10_digest_40 rfl (lv_at hl 0 rfl) ?_
            refine lv_aload_n hx hb dX10_digest_41 rfl (lv_at hl 2 rfl) ?_
            refine va_get (D := D) (ci := 10) (v := .ref x_tx) (C := RX10) (T := TX10) (N := 11) hx hb hts zi_X10_digest_X10 hown hK hP 0 rfl rfl 1 (by decide) (hts (.fieldLink RX10 19 "BeatenInstead" "text" "LBeatenInstead$Text;") (List.mem_of_getElem? (i := 2) rfl)) (fun _ h9 => h9) rfl dX10_digest_42 ?_
            refine va_getN (D := D) (ci := 9) (v := .int (nI lessons)) (C := RX9) (T := TX9) (N := 4) hx hb hts zi_X10_digest_X9 hown hK hP 3 rfl rfl 2 (by decide) (hN.w (w := .fieldLinkNest RX10 89 "BeatenInstead$Text" "lessons" "I" "BeatenInstead") 4 rfl rfl) (fun _ h9 => h9) rfl dX10_digest_45 ?_
            refine lv_icmp_ge (tgt := 138) hx hb dX10_digest_48 (by decide) (fun c_2 => ?_) (fun c_2 => ?_)
            · skip
              have c_2 : lessons ≤ i2 := (nI_leI (a := lessons) (b := i2) (by omega) (by omega)).mp c_2
              refine lv_iconst (v := 0) hx hb dX10_digest_138 (by decide) ?_
              refine lv_istore_n (lv' := [(3, .int 0), (1, .long y2), (0, .ref x)]) hx hb dX10_digest_139 rfl hl (by decide) rfl (fun ls hl => ?_)
              have loop_140 : ∀ (fu_140 : Nat) (y5 : Int64) (i5 : Nat), (i5 ≤ np) → (y5 = zMxPs (zAbout np kd wt fond boys learnt) (zTenths np lessons kd wt fond boys hard) (zFondness qp ql qr hard kd wt np nh) lessons i5 y2) → np - i5 < fu_140 → ∀ (ls : Array Slot), lv_has ls 5 [(3, .int (nI i5)), (1, .long y5), (0, .ref x)] → W p l e rm_X10_digest s m args below meth c s.heap [] 0 0 Q (F0 m 140 ls []) := by
                intro fu_140
                induction fu_140 with
                | zero => intro y5 i5 hi5 hy5 hn_140; exact absurd hn_140 (by omega)
                | succ fu_140 ih_140 =>
                  intro y5 i5 hi5 hy5 hn_140 ls hl
                  refine lv_iload_n hx hb dX10_digest_140 rfl (lv_at hl 0 rfl) ?_
                  refine lv_aload_n hx hb dX10_digest_141 rfl (lv_at hl 2 rfl) ?_
                  refine va_get (D := D) (ci := 10) (v := .ref x_nw) (C := RX10) (T := TX10) (N := 11) hx hb hts zi_X10_digest_X10 hown hK hP 0 rfl rfl 3 (by decide) (hts (.fieldLink RX10 32 "BeatenInstead" "now" "LBeatenInstead$Standing;") (List.mem_of_getElem? (i := 3) rfl)) (fun _ h9 => h9) rfl dX10_digest_142 ?_
                  refine va_getN (D := D) (ci := 8) (v := .int (nI np)) (C := RX8) (T := TX8) (N := 9) hx hb hts zi_X10_digest_X8 hown hK hP 1 rfl rfl 0 (by decide) (hN.w (w := .fieldLinkNest RX10 118 "BeatenInstead$Standing" "princes" "I" "BeatenInstead") 8 rfl rfl) (fun _ h9 => h9) rfl dX10_digest_145 ?_
                  refine lv_icmp_ge (tgt := 164) hx hb dX10_digest_148 (by decide) (fun c_3 => ?_) (fun c_3 => ?_)
                  · skip
                    have c_3 : np ≤ i5 := (nI_leI (a := np) (b := i5) (by omega) (by omega)).mp c_3
                    refine lv_iconst (v := 0) hx hb dX10_digest_164 (by decide) ?_
                    refine lv_istore_n (lv' := [(3, .int 0), (1, .long y5), (0, .ref x)]) hx hb dX10_digest_165 rfl hl (by decide) rfl (fun ls hl => ?_)
                    have loop_166 : ∀ (fu_166 : Nat) (y6 : Int64) (i6 : Nat), (i6 ≤ size) → (y6 = zMx (fun j => nI (codes j)) i6 y5) → size - i6 < fu_166 → ∀ (ls : Array Slot), lv_has ls 5 [(3, .int (nI i6)), (1, .long y6), (0, .ref x)] → W p l e rm_X10_digest s m args below meth c s.heap [] 0 0 Q (F0 m 166 ls []) := by
                      intro fu_166
                      induction fu_166 with
                      | zero => intro y6 i6 hi6 hy6 hn_166; exact absurd hn_166 (by omega)
                      | succ fu_166 ih_166 =>
                        intro y6 i6 hi6 hy6 hn_166 ls hl
                        have hci := hco i6
                        refine lv_iload_n hx hb dX10_digest_166 rfl (lv_at hl 0 rfl) ?_
                        refine lv_aload_n hx hb dX10_digest_167 rfl (lv_at hl 2 rfl) ?_
                        refine va_get (D := D) (ci := 10) (v := .ref x_pg) (C := RX10) (T := TX10) (N := 11) hx hb hts zi_X10_digest_X10 hown hK hP 0 rfl rfl 0 (by decide) (hts (.fieldLink RX10 12 "BeatenInstead" "page" "LBeatenInstead$Page;") (List.mem_of_getElem? (i := 4) rfl)) (fun _ h9 => h9) rfl dX10_digest_168 ?_
                        refine va_getN (D := D) (ci := 5) (v := .int (nI size)) (C := RX5) (T := TX5) (N := 2) hx hb hts zi_X10_digest_X5 hown hK hP 6 rfl rfl 1 (by decide) (hN.w (w := .fieldLinkNest RX10 67 "BeatenInstead$Page" "size" "I" "BeatenInstead") 1 rfl rfl) (fun _ h9 => h9) rfl dX10_digest_171 ?_
                        refine lv_icmp_ge (tgt := 197) hx hb dX10_digest_174 (by decide) (fun c_4 => ?_) (fun c_4 => ?_)
                        · skip
                          have c_4 : size ≤ i6 := (nI_leI (a := size) (b := i6) (by omega) (by omega)).mp c_4
                          refine lv_iconst (v := 0) hx hb dX10_digest_197 (by decide) ?_
                          refine lv_istore_n (lv' := [(3, .int 0), (1, .long y6), (0, .ref x)]) hx hb dX10_digest_198 rfl hl (by decide) rfl (fun ls hl => ?_)
                          have loop_199 : ∀ (fu_199 : Nat) (y7 : Int64) (i7 : Nat), (i7 ≤ 9) → (y7 = zMx (fun w => (zCount lessons limit np stripes learnt nh size tR tO) (nI w)) i7 y6) → 9 - i7 < fu_199 → ∀ (ls : Array Slot), lv_has ls 5 [(3, .int (nI i7)), (1, .long y7), (0, .ref x)] → W p l e rm_X10_digest s m args below meth c s.heap [] 0 0 Q (F0 m 199 ls []) := by
                            intro fu_199
                            induction fu_199 with
                            | zero => intro y7 i7 hi7 hy7 hn_199; exact absurd hn_199 (by omega)
                            | succ fu_199 ih_199 =>
                              intro y7 i7 hi7 hy7 hn_199 ls hl
                              refine lv_iload_n hx hb dX10_digest_199 rfl (lv_at hl 0 rfl) ?_
                              refine lv_bipush (v := (9)) hx hb dX10_digest_200 (by decide) ?_
                              refine lv_icmp_ge (tgt := 222) hx hb dX10_digest_202 (by decide) (fun c_5 => ?_) (fun c_5 => ?_)
                              · skip
                                have c_5 : 9 ≤ i7 := (nI_leI (a := 9) (b := i7) (by omega) (by omega)).mp c_5
                                refine lv_lload_n hx hb dX10_digest_222 rfl (lv_at hl 1 rfl) ?_
                                exact hret _ _ _ dX10_digest_223 (by rw [zDigest, hy7, hy6, hy5, hy2, show i7 = 9 by omega, show i6 = size by omega, show i5 = np by omega, show i2 = lessons by omega])
                              · skip
                                have c_5 : ¬ (9 ≤ i7) := (not_congr (nI_leI (a := 9) (b := i7) (by omega) (by omega))).mp c_5
                                refine lv_lload_n hx hb dX10_digest_205 rfl (lv_at hl 1 rfl) ?_
                                refine lv_aload_n hx hb dX10_digest_206 rfl (lv_at hl 2 rfl) ?_
                                refine lv_iload_n hx hb dX10_digest_207 rfl (lv_at hl 0 rfl) ?_
                                refine vp_callSi (z_runV (b := x) (As := [.int (nI i7)]) (rest := [.long y7]) hx hb hml hown hts hK hN hl.1 (c_X10_count l D cI cB cP x x_pg x_tx x_pr x_nw x_kp x_tr x_or x_bl hI tR tO np a1 a2 a3 a4 nh a5 a6 a7 t1 t2 lessons limit g1 size stripes learnt (nI i7) (by first | assumption | omega) (by first | assumption | omega)) gX10_digest_X10_count rfl zd_X10_count rfl (Nat.le_of_ble_eq_true rfl) (Nat.le_of_ble_eq_true rfl) (va_P.sub (ws' := [(x, .inr (10, [.ref x_pg, .ref x_tx, .ref x_pr, .ref x_nw, .ref x_kp, .ref x_tr, .ref x_or, .ref x_bl, .int (nI hI), .int (nI tR), .int (nI tO)])), (x_tx, .inr (9, [.ref t1, .ref t2, .int (nI lessons), .int (nI limit)])), (x_nw, .inr (8, [.int (nI np), .ref a1, .ref a2, .ref a3, .ref a4, .int (nI nh), .ref a5, .ref a6, .ref a7])), (x_pg, .inr (5, [.ref g1, .int (nI size)])), (a4, .inl (cI, 3, .inl (stripes))), (a3, .inl (cI, 3, .inl (fun q_ => nI (learnt q_))))]) (z_pf hP) [0, 3, 1, 6, 11, 10] rfl) (va_recv hK hP (ci := 10) (q0 := 0) rfl rfl) rfl (Nat.le_of_ble_eq_true rfl) dX10_digest_208 ⟨Nat.zero_le _, Nat.zero_le _⟩) (fun r hr => ?_)
                                subst hr
                                refine lv_i2l (v := (zCount lessons limit np stripes learnt nh size tR tO (nI i7)).toInt64) hx hb dX10_digest_211 rfl ?_
                                refine vp_callSl (z_runS (As := [.long y7, .long ((zCount lessons limit np stripes learnt nh size tR tO (nI i7)).toInt64)]) (rest := []) hx hb hml hown hts hK hN hl.1 (c_X10_mix l D cI cB cP y7 ((zCount lessons limit np stripes learnt nh size tR tO (nI i7)).toInt64)) gX10_digest_X10_mix rfl zd_X10_mix rfl (Nat.le_of_ble_eq_true rfl) (Nat.le_of_ble_eq_true rfl) z_p0 rfl (Nat.le_of_ble_eq_true rfl) dX10_digest_212 ⟨Nat.zero_le _, Nat.zero_le _⟩) (fun r hr => ?_)
                                subst hr
                                refine lv_lstore_n (lv' := [(1, .long (31 * y7 + ((zCount lessons limit np stripes learnt nh size tR tO (nI i7)).toInt64))), (3, .int (nI i7)), (0, .ref x)]) hx hb dX10_digest_215 rfl hl (by decide) rfl (fun ls hl => ?_)
                                refine lv_iinc (v := nI (i7 + 1)) (lv' := [(3, .int (nI (i7 + 1))), (1, .long (31 * y7 + ((zCount lessons limit np stripes learnt nh size tR tO (nI i7)).toInt64))), (0, .ref x)]) hx hb dX10_digest_216 hl (k := 1) rfl (nI_add (i7) 1) (by decide) rfl (fun ls hl => ?_)
                                refine lv_goto (tgt := 199) hx hb dX10_digest_219 (by decide) ?_
                                exact ih_199 (31 * y7 + ((zCount lessons limit np stripes learnt nh size tR tO (nI i7)).toInt64)) (i7 + 1) (by omega) (by rw [zMx, hy7]) (by omega) ls hl
                          exact loop_199 _ y6 0 (Nat.zero_le _) (rfl) (Nat.lt_succ_self _) ls hl
                        · skip
                          have c_4 : ¬ (size ≤ i6) := (not_congr (nI_leI (a := size) (b := i6) (by omega) (by omega))).mp c_4
                          refine lv_lload_n hx hb dX10_digest_177 rfl (lv_at hl 1 rfl) ?_
                          refine lv_aload_n hx hb dX10_digest_178 rfl (lv_at hl 2 rfl) ?_
                          refine va_get (D := D) (ci := 10) (v := .ref x_pg) (C := RX10) (T := TX10) (N := 11) hx hb hts zi_X10_digest_X10 hown hK hP 0 rfl rfl 0 (by decide) (hts (.fieldLink RX10 12 "BeatenInstead" "page" "LBeatenInstead$Page;") (List.mem_of_getElem? (i := 4) rfl)) (fun _ h9 => h9) rfl dX10_digest_179 ?_
                          refine lv_iload_n hx hb dX10_digest_182 rfl (lv_at hl 0 rfl) ?_
                          refine vp_callSi (z_runVN (b := x_pg) (As := [.int (nI i6)]) (rest := [.long y6]) hx hb hml hown hts hK hN hl.1 (c_X5_codeAt l D cI cB cP x_pg g1 size codes i6 (by first | assumption | omega)) gX10_digest_X5_codeAt_n278 rfl 75 rfl (List.mem_of_getElem? (i := 182) rfl) (List.mem_of_getElem? (i := 181) rfl) (List.mem_of_getElem? (i := 183) rfl) zd_X5_codeAt rfl (Nat.le_of_ble_eq_true rfl) (Nat.le_of_ble_eq_true rfl) (va_P.sub (ws' := [(x_pg, .inr (5, [.ref g1, .int (nI size)])), (g1, .inl (cI, 18, .inl (fun q_ => nI (codes q_))))]) (z_pf hP) [6, 7] rfl) (va_recv hK hP (ci := 5) (q0 := 6) rfl rfl) rfl (Nat.le_of_ble_eq_true rfl) dX10_digest_183 ⟨Nat.zero_le _, Nat.zero_le _⟩) (fun r hr => ?_)
                          subst hr
                          refine lv_i2l (v := lN (codes i6)) hx hb dX10_digest_186 (nI_l (by omega)) ?_
                          refine vp_callSl (z_runS (As := [.long y6, .long (lN (codes i6))]) (rest := []) hx hb hml hown hts hK hN hl.1 (c_X10_mix l D cI cB cP y6 (lN (codes i6))) gX10_digest_X10_mix rfl zd_X10_mix rfl (Nat.le_of_ble_eq_true rfl) (Nat.le_of_ble_eq_true rfl) z_p0 rfl (Nat.le_of_ble_eq_true rfl) dX10_digest_187 ⟨Nat.zero_le _, Nat.zero_le _⟩) (fun r hr => ?_)
                          subst hr
                          refine lv_lstore_n (lv' := [(1, .long (31 * y6 + (lN (codes i6)))), (3, .int (nI i6)), (0, .ref x)]) hx hb dX10_digest_190 rfl hl (by decide) rfl (fun ls hl => ?_)
                          refine lv_iinc (v := nI (i6 + 1)) (lv' := [(3, .int (nI (i6 + 1))), (1, .long (31 * y6 + (lN (codes i6)))), (0, .ref x)]) hx hb dX10_digest_191 hl (k := 1) rfl (nI_add (i6) 1) (by decide) rfl (fun ls hl => ?_)
                          refine lv_goto (tgt := 166) hx hb dX10_digest_194 (by decide) ?_
                          exact ih_166 (31 * y6 + (lN (codes i6))) (i6 + 1) (by omega) (by rw [zMx, hy6, nI_l (by omega)]) (by omega) ls hl
                    exact loop_166 _ y5 0 (Nat.zero_le _) (rfl) (Nat.lt_succ_self _) ls hl
                  · skip
                    have c_3 : ¬ (np ≤ i5) := (not_congr (nI_leI (a := np) (b := i5) (by omega) (by omega))).mp c_3
                    refine lv_aload_n hx hb dX10_digest_151 rfl (lv_at hl 2 rfl) ?_
                    refine lv_lload_n hx hb dX10_digest_152 rfl (lv_at hl 1 rfl) ?_
                    refine lv_iload_n hx hb dX10_digest_153 rfl (lv_at hl 0 rfl) ?_
                    refine vp_callSl (z_runV (b := x) (As := [.long y5, .int (nI i5)]) (rest := []) hx hb hml hown hts hK hN hl.1 (c_X10_mixPrince l D cI cB cP x x_pg x_tx x_pr x_nw x_kp x_tr x_or x_bl hI tR tO np a1 a2 a3 a4 nh a5 a6 a7 t1 t2 lessons limit hard fond boys learnt qp ql qr pool pr kd wt y5 (nI i5) (by first | assumption | omega) (by first | assumption | omega) (by first | assumption | omega) (by first | assumption | omega) (by first | assumption | omega) (by first | assumption | omega) (by first | assumption | omega) (by first | assumption | omega) (by first | assumption | omega) (by first | assumption | omega) (by first | assumption | omega) (by first | assumption | omega) (by first | assumption | omega)) gX10_digest_X10_mixPrince rfl zd_X10_mixPrince rfl (Nat.le_of_ble_eq_true rfl) (Nat.le_of_ble_eq_true rfl) (va_P.app (va_P.sub (ws' := [(x, .inr (10, [.ref x_pg, .ref x_tx, .ref x_pr, .ref x_nw, .ref x_kp, .ref x_tr, .ref x_or, .ref x_bl, .int (nI hI), .int (nI tR), .int (nI tO)])), (x_nw, .inr (8, [.int (nI np), .ref a1, .ref a2, .ref a3, .ref a4, .int (nI nh), .ref a5, .ref a6, .ref a7])), (x_pr, .inl (cP, 3, .inr (.inr (.inr (.inr (pr)))))), (x_tx, .inr (9, [.ref t1, .ref t2, .int (nI lessons), .int (nI limit)])), (t1, .inl (cI, 5, .inl (fun q_ => nI (hard q_)))), (a1, .inl (cI, 9, .inl (fun q_ => nI (fond q_)))), (a2, .inl (cI, 3, .inl (fun q_ => nI (boys q_)))), (a3, .inl (cI, 3, .inl (fun q_ => nI (learnt q_)))), (a5, .inl (cI, 6, .inl (fun q_ => nI (qp q_)))), (a6, .inl (cI, 6, .inl (fun q_ => nI (ql q_)))), (a7, .inl (cI, 6, .inl (fun q_ => nI (qr q_))))]) (z_pf hP) [0, 1, 2, 3, 4, 8, 9, 10, 12, 13, 14] rfl) (z_pp hP)) (va_recv hK hP (ci := 10) (q0 := 0) rfl rfl) rfl (Nat.le_of_ble_eq_true rfl) dX10_digest_154 ⟨Nat.zero_le _, Nat.zero_le _⟩) (fun r hr => ?_)
                    subst hr
                    refine lv_lstore_n (lv' := [(1, .long (zMxP (zAbout np kd wt fond boys learnt) (zTenths np lessons kd wt fond boys hard) (zFondness qp ql qr hard kd wt np nh) lessons (nI i5) y5)), (3, .int (nI i5)), (0, .ref x)]) hx hb dX10_digest_157 rfl hl (by decide) rfl (fun ls hl => ?_)
                    refine lv_iinc (v := nI (i5 + 1)) (lv' := [(3, .int (nI (i5 + 1))), (1, .long (zMxP (zAbout np kd wt fond boys learnt) (zTenths np lessons kd wt fond boys hard) (zFondness qp ql qr hard kd wt np nh) lessons (nI i5) y5)), (0, .ref x)]) hx hb dX10_digest_158 hl (k := 1) rfl (nI_add (i5) 1) (by decide) rfl (fun ls hl => ?_)
                    refine lv_goto (tgt := 140) hx hb dX10_digest_161 (by decide) ?_
                    exact ih_140 (zMxP (zAbout np kd wt fond boys learnt) (zTenths np lessons kd wt fond boys hard) (zFondness qp ql qr hard kd wt np nh) lessons (nI i5) y5) (i5 + 1) (by omega) (by rw [zMxPs, ← hy5]) (by omega) ls hl
              exact loop_140 _ y2 0 (Nat.zero_le _) (rfl) (Nat.lt_succ_self _) ls hl
            · skip
              have c_2 : ¬ (lessons ≤ i2) := (not_congr (nI_leI (a := lessons) (b := i2) (by omega) (by omega))).mp c_2
              refine lv_iconst (v := 0) hx hb dX10_digest_51 (by decide) ?_
              refine lv_istore (lv' := [(4, .int 0), (3, .int (nI i2)), (1, .long y2), (0, .ref x)]) hx hb dX10_digest_52 hl (by decide) rfl (fun ls hl => ?_)
              have loop_54 : ∀ (fu_54 : Nat) (y3 : Int64) (i3 : Nat), (i3 ≤ 3) → (y3 = zMx (fun w => (zLesson lessons hard blows learnt np) (nI i2) (nI w)) i3 y2) → 3 - i3 < fu_54 → ∀ (ls : Array Slot), lv_has ls 5 [(4, .int (nI i3)), (3, .int (nI i2)), (1, .long y3), (0, .ref x)] → W p l e rm_X10_digest s m args below meth c s.heap [] 0 0 Q (F0 m 54 ls []) := by
                intro fu_54
                induction fu_54 with
                | zero => intro y3 i3 hi3 hy3 hn_54; exact absurd hn_54 (by omega)
                | succ fu_54 ih_54 =>
                  intro y3 i3 hi3 hy3 hn_54 ls hl
                  refine lv_iload hx hb dX10_digest_54 (lv_at hl 0 rfl) ?_
                  refine lv_iconst (v := 2) hx hb dX10_digest_56 (by decide) ?_
                  refine lv_icmp_gt (tgt := 79) hx hb dX10_digest_57 (by decide) (fun c_3 => ?_) (fun c_3 => ?_)
                  · skip
                    have c_3 : 2 < i3 := (nI_ltI (a := 2) (b := i3) (by omega) (by omega)).mp c_3
                    refine lv_lload_n hx hb dX10_digest_79 rfl (lv_at hl 2 rfl) ?_
                    refine lv_aload_n hx hb dX10_digest_80 rfl (lv_at hl 3 rfl) ?_
                    refine lv_iload_n hx hb dX10_digest_81 rfl (lv_at hl 1 rfl) ?_
                    refine lv_iconst (v := 0) hx hb dX10_digest_82 (by decide) ?_
                    refine vp_callSi (z_runVM (b := x) (As := [.int (nI i2), .int 0]) (rest := [.long y3]) hx hb hml hown hts hK hN hl.1 (c_X10_match l D cI cB cP bM x x_pg x_tx x_pr x_nw x_kp x_tr x_or x_bl hI tR tO np a1 a2 a3 a4 nh a5 a6 a7 t1 t2 lessons limit hard blows fond pool pr kd wt (nI i2) 0 (by first | assumption | omega) (by first | assumption | omega) (by first | assumption | omega) (by first | assumption | omega) (by first | assumption | omega) (by first | assumption | omega) (by first | assumption | omega) (by first | assumption | omega)) hM gX10_digest_X10_match rfl zd_X10_match rfl (Nat.le_of_ble_eq_true rfl) (Nat.le_of_ble_eq_true rfl) (va_P.app (va_P.sub (ws' := [(x, .inr (10, [.ref x_pg, .ref x_tx, .ref x_pr, .ref x_nw, .ref x_kp, .ref x_tr, .ref x_or, .ref x_bl, .int (nI hI), .int (nI tR), .int (nI tO)])), (x_nw, .inr (8, [.int (nI np), .ref a1, .ref a2, .ref a3, .ref a4, .int (nI nh), .ref a5, .ref a6, .ref a7])), (x_pr, .inl (cP, 3, .inr (.inr (.inr (.inr (pr)))))), (x_tx, .inr (9, [.ref t1, .ref t2, .int (nI lessons), .int (nI limit)])), (t1, .inl (cI, 5, .inl (fun q_ => nI (hard q_)))), (t2, .inl (cI, 5, .inl (fun q_ => nI (blows q_)))), (a1, .inl (cI, 9, .inl (fun q_ => nI (fond q_))))]) (z_pf hP) [0, 1, 2, 3, 4, 5, 8] rfl) (z_pp hP)) (va_recv hK hP (ci := 10) (q0 := 0) rfl rfl) rfl (Nat.le_of_ble_eq_true rfl) dX10_digest_83 ⟨Nat.zero_le _, Nat.zero_le _⟩) (fun r hr => ?_)
                    subst hr
                    refine lv_i2l (v := (zMatch kd wt fond hard blows np lessons (nI i2) 0).toInt64) hx hb dX10_digest_86 rfl ?_
                    refine vp_callSl (z_runS (As := [.long y3, .long ((zMatch kd wt fond hard blows np lessons (nI i2) 0).toInt64)]) (rest := []) hx hb hml hown hts hK hN hl.1 (c_X10_mix l D cI cB cP y3 ((zMatch kd wt fond hard blows np lessons (nI i2) 0).toInt64)) gX10_digest_X10_mix rfl zd_X10_mix rfl (Nat.le_of_ble_eq_true rfl) (Nat.le_of_ble_eq_true rfl) z_p0 rfl (Nat.le_of_ble_eq_true rfl) dX10_digest_87 ⟨Nat.zero_le _, Nat.zero_le _⟩) (fun r hr => ?_)
                    subst hr
                    refine lv_aload_n hx hb dX10_digest_90 rfl (lv_at hl 3 rfl) ?_
                    refine lv_iload_n hx hb dX10_digest_91 rfl (lv_at hl 1 rfl) ?_
                    refine lv_iconst (v := 1) hx hb dX10_digest_92 (by decide) ?_
                    refine vp_callSi (z_runVM (b := x) (As := [.int (nI i2), .int 1]) (rest := [.long (31 * y3 + ((zMatch kd wt fond hard blows np lessons (nI i2) 0).toInt64))]) hx hb hml hown hts hK hN hl.1 (c_X10_match l D cI cB cP bM x x_pg x_tx x_pr x_nw x_kp x_tr x_or x_bl hI tR tO np a1 a2 a3 a4 nh a5 a6 a7 t1 t2 lessons limit hard blows fond pool pr kd wt (nI i2) 1 (by first | assumption | omega) (by first | assumption | omega) (by first | assumption | omega) (by first | assumption | omega) (by first | assumption | omega) (by first | assumption | omega) (by first | assumption | omega) (by first | assumption | omega)) hM gX10_digest_X10_match rfl zd_X10_match rfl (Nat.le_of_ble_eq_true rfl) (Nat.le_of_ble_eq_true rfl) (va_P.app (va_P.sub (ws' := [(x, .inr (10, [.ref x_pg, .ref x_tx, .ref x_pr, .ref x_nw, .ref x_kp, .ref x_tr, .ref x_or, .ref x_bl, .int (nI hI), .int (nI tR), .int (nI tO)])), (x_nw, .inr (8, [.int (nI np), .ref a1, .ref a2, .ref a3, .ref a4, .int (nI nh), .ref a5, .ref a6, .ref a7])), (x_pr, .inl (cP, 3, .inr (.inr (.inr (.inr (pr)))))), (x_tx, .inr (9, [.ref t1, .ref t2, .int (nI lessons), .int (nI limit)])), (t1, .inl (cI, 5, .inl (fun q_ => nI (hard q_)))), (t2, .inl (cI, 5, .inl (fun q_ => nI (blows q_)))), (a1, .inl (cI, 9, .inl (fun q_ => nI (fond q_))))]) (z_pf hP) [0, 1, 2, 3, 4, 5, 8] rfl) (z_pp hP)) (va_recv hK hP (ci := 10) (q0 := 0) rfl rfl) rfl (Nat.le_of_ble_eq_true rfl) dX10_digest_93 ⟨Nat.zero_le _, Nat.zero_le _⟩) (fun r hr => ?_)
                    subst hr
                    refine lv_i2l (v := (zMatch kd wt fond hard blows np lessons (nI i2) 1).toInt64) hx hb dX10_digest_96 rfl ?_
                    refine vp_callSl (z_runS (As := [.long (31 * y3 + ((zMatch kd wt fond hard blows np lessons (nI i2) 0).toInt64)), .long ((zMatch kd wt fond hard blows np lessons (nI i2) 1).toInt64)]) (rest := []) hx hb hml hown hts hK hN hl.1 (c_X10_mix l D cI cB cP (31 * y3 + ((zMatch kd wt fond hard blows np lessons (nI i2) 0).toInt64)) ((zMatch kd wt fond hard blows np lessons (nI i2) 1).toInt64)) gX10_digest_X10_mix rfl zd_X10_mix rfl (Nat.le_of_ble_eq_true rfl) (Nat.le_of_ble_eq_true rfl) z_p0 rfl (Nat.le_of_ble_eq_true rfl) dX10_digest_97 ⟨Nat.zero_le _, Nat.zero_le _⟩) (fun r hr => ?_)
                    subst hr
                    refine lv_lstore_n (lv' := [(1, .long (31 * (31 * y3 + ((zMatch kd wt fond hard blows np lessons (nI i2) 0).toInt64)) + ((zMatch kd wt fond hard blows np lessons (nI i2) 1).toInt64))), (4, .int (nI i3)), (3, .int (nI i2)), (0, .ref x)]) hx hb dX10_digest_100 rfl hl (by decide) rfl (fun ls hl => ?_)
                    refine lv_iconst (v := 0) hx hb dX10_digest_101 (by decide) ?_
                    refine lv_istore (lv' := [(4, .int 0), (1, .long (31 * (31 * y3 + ((zMatch kd wt fond hard blows np lessons (nI i2) 0).toInt64)) + ((zMatch kd wt fond hard blows np lessons (nI i2) 1).toInt64))), (3, .int (nI i2)), (0, .ref x)]) hx hb dX10_digest_102 hl (by decide) rfl (fun ls hl => ?_)
                    have loop_104 : ∀ (fu_104 : Nat) (y4 : Int64) (i4 : Nat), (i4 ≤ 3) → (y4 = zMx (fun b => (zMatch kd wt fond hard blows np lessons) (nI i2) (nI (10 + b))) i4 (31 * (31 * y3 + ((zMatch kd wt fond hard blows np lessons) (nI i2) 0).toInt64) + ((zMatch kd wt fond hard blows np lessons) (nI i2) 1).toInt64)) → 3 - i4 < fu_104 → ∀ (ls : Array Slot), lv_has ls 5 [(4, .int (nI i4)), (1, .long y4), (3, .int (nI i2)), (0, .ref x)] → W p l e rm_X10_digest s m args below meth c s.heap [] 0 0 Q (F0 m 104 ls []) := by
                      intro fu_104
                      induction fu_104 with
                      | zero => intro y4 i4 hi4 hy4 hn_104; exact absurd hn_104 (by omega)
                      | succ fu_104 ih_104 =>
                        intro y4 i4 hi4 hy4 hn_104 ls hl
                        refine lv_iload hx hb dX10_digest_104 (lv_at hl 0 rfl) ?_
                        refine lv_iconst (v := 3) hx hb dX10_digest_106 (by decide) ?_
                        refine lv_icmp_ge (tgt := 132) hx hb dX10_digest_107 (by decide) (fun c_4 => ?_) (fun c_4 => ?_)
                        · skip
                          have c_4 : 3 ≤ i4 := (nI_leI (a := 3) (b := i4) (by omega) (by omega)).mp c_4
                          refine lv_iinc (v := nI (i2 + 1)) (lv' := [(3, .int (nI (i2 + 1))), (4, .int (nI i4)), (1, .long y4), (0, .ref x)]) hx hb dX10_digest_132 hl (k := 2) rfl (nI_add (i2) 1) (by decide) rfl (fun ls hl => ?_)
                          refine lv_goto (tgt := 40) hx hb dX10_digest_135 (by decide) ?_
                          exact ih_40 y4 (i2 + 1) (by omega) (by rw [zMxL, ← hy2, zMxL1, ← show i4 = 3 by omega, ← show i3 = i4 by omega, ← hy3, show i3 = i4 by omega]; exact hy4) (by omega) ls (lv_sub hl [0, 2, 3] rfl)
                        · skip
                          have c_4 : ¬ (3 ≤ i4) := (not_congr (nI_leI (a := 3) (b := i4) (by omega) (by omega))).mp c_4
                          refine lv_lload_n hx hb dX10_digest_110 rfl (lv_at hl 1 rfl) ?_
                          refine lv_aload_n hx hb dX10_digest_111 rfl (lv_at hl 3 rfl) ?_
                          refine lv_iload_n hx hb dX10_digest_112 rfl (lv_at hl 2 rfl) ?_
                          refine lv_bipush (v := (10)) hx hb dX10_digest_113 (by decide) ?_
                          refine lv_iload hx hb dX10_digest_115 (lv_at hl 0 rfl) ?_
                          refine lv_iadd hx hb dX10_digest_117 ?_
                          refine z_top (show (10 + (nI i4)) = nI (10 + i4) from nI_add 10 i4) ?_
                          refine vp_callSi (z_runVM (b := x) (As := [.int (nI i2), .int (nI (10 + i4))]) (rest := [.long y4]) hx hb hml hown hts hK hN hl.1 (c_X10_match l D cI cB cP bM x x_pg x_tx x_pr x_nw x_kp x_tr x_or x_bl hI tR tO np a1 a2 a3 a4 nh a5 a6 a7 t1 t2 lessons limit hard blows fond pool pr kd wt (nI i2) (nI (10 + i4)) (by first | assumption | omega) (by first | assumption | omega) (by first | assumption | omega) (by first | assumption | omega) (by first | assumption | omega) (by first | assumption | omega) (by first | assumption | omega) (by first | assumption | omega)) hM gX10_digest_X10_match rfl zd_X10_match rfl (Nat.le_of_ble_eq_true rfl) (Nat.le_of_ble_eq_true rfl) (va_P.app (va_P.sub (ws' := [(x, .inr (10, [.ref x_pg, .ref x_tx, .ref x_pr, .ref x_nw, .ref x_kp, .ref x_tr, .ref x_or, .ref x_bl, .int (nI hI), .int (nI tR), .int (nI tO)])), (x_nw, .inr (8, [.int (nI np), .ref a1, .ref a2, .ref a3, .ref a4, .int (nI nh), .ref a5, .ref a6, .ref a7])), (x_pr, .inl (cP, 3, .inr (.inr (.inr (.inr (pr)))))), (x_tx, .inr (9, [.ref t1, .ref t2, .int (nI lessons), .int (nI limit)])), (t1, .inl (cI, 5, .inl (fun q_ => nI (hard q_)))), (t2, .inl (cI, 5, .inl (fun q_ => nI (blows q_)))), (a1, .inl (cI, 9, .inl (fun q_ => nI (fond q_))))]) (z_pf hP) [0, 1, 2, 3, 4, 5, 8] rfl) (z_pp hP)) (va_recv hK hP (ci := 10) (q0 := 0) rfl rfl) rfl (Nat.le_of_ble_eq_true rfl) dX10_digest_118 ⟨Nat.zero_le _, Nat.zero_le _⟩) (fun r hr => ?_)
                          subst hr
                          refine lv_i2l (v := (zMatch kd wt fond hard blows np lessons (nI i2) (nI (10 + i4))).toInt64) hx hb dX10_digest_121 rfl ?_
                          refine vp_callSl (z_runS (As := [.long y4, .long ((zMatch kd wt fond hard blows np lessons (nI i2) (nI (10 + i4))).toInt64)]) (rest := []) hx hb hml hown hts hK hN hl.1 (c_X10_mix l D cI cB cP y4 ((zMatch kd wt fond hard blows np lessons (nI i2) (nI (10 + i4))).toInt64)) gX10_digest_X10_mix rfl zd_X10_mix rfl (Nat.le_of_ble_eq_true rfl) (Nat.le_of_ble_eq_true rfl) z_p0 rfl (Nat.le_of_ble_eq_true rfl) dX10_digest_122 ⟨Nat.zero_le _, Nat.zero_le _⟩) (fun r hr => ?_)
                          subst hr
                          refine lv_lstore_n (lv' := [(1, .long (31 * y4 + ((zMatch kd wt fond hard blows np lessons (nI i2) (nI (10 + i4))).toInt64))), (4, .int (nI i4)), (3, .int (nI i2)), (0, .ref x)]) hx hb dX10_digest_125 rfl hl (by decide) rfl (fun ls hl => ?_)
                          refine lv_iinc (v := nI (i4 + 1)) (lv' := [(4, .int (nI (i4 + 1))), (1, .long (31 * y4 + ((zMatch kd wt fond hard blows np lessons (nI i2) (nI (10 + i4))).toInt64))), (3, .int (nI i2)), (0, .ref x)]) hx hb dX10_digest_126 hl (k := 1) rfl (nI_add (i4) 1) (by decide) rfl (fun ls hl => ?_)
                          refine lv_goto (tgt := 104) hx hb dX10_digest_129 (by decide) ?_
                          exact ih_104 (31 * y4 + ((zMatch kd wt fond hard blows np lessons (nI i2) (nI (10 + i4))).toInt64)) (i4 + 1) (by omega) (by rw [zMx, hy4]) (by omega) ls hl
                    exact loop_104 _ (31 * (31 * y3 + ((zMatch kd wt fond hard blows np lessons (nI i2) 0).toInt64)) + ((zMatch kd wt fond hard blows np lessons (nI i2) 1).toInt64)) 0 (Nat.zero_le _) (rfl) (Nat.lt_succ_self _) ls hl
                  · skip
                    have c_3 : ¬ (2 < i3) := (not_congr (nI_ltI (a := 2) (b := i3) (by omega) (by omega))).mp c_3
                    refine lv_lload_n hx hb dX10_digest_60 rfl (lv_at hl 2 rfl) ?_
                    refine lv_aload_n hx hb dX10_digest_61 rfl (lv_at hl 3 rfl) ?_
                    refine lv_iload_n hx hb dX10_digest_62 rfl (lv_at hl 1 rfl) ?_
                    refine lv_iload hx hb dX10_digest_63 (lv_at hl 0 rfl) ?_
                    refine vp_callSi (z_runV (b := x) (As := [.int (nI i2), .int (nI i3)]) (rest := [.long y3]) hx hb hml hown hts hK hN hl.1 (c_X10_lesson l D cI cB cP x x_pg x_tx x_pr x_nw x_kp x_tr x_or x_bl hI tR tO np a1 a2 a3 a4 nh a5 a6 a7 t1 t2 lessons limit hard blows learnt (nI i2) (nI i3) (by first | assumption | omega) (by first | assumption | omega) (by first | assumption | omega)) gX10_digest_X10_lesson rfl zd_X10_lesson rfl (Nat.le_of_ble_eq_true rfl) (Nat.le_of_ble_eq_true rfl) (va_P.sub (ws' := [(x, .inr (10, [.ref x_pg, .ref x_tx, .ref x_pr, .ref x_nw, .ref x_kp, .ref x_tr, .ref x_or, .ref x_bl, .int (nI hI), .int (nI tR), .int (nI tO)])), (x_tx, .inr (9, [.ref t1, .ref t2, .int (nI lessons), .int (nI limit)])), (t1, .inl (cI, 5, .inl (fun q_ => nI (hard q_)))), (t2, .inl (cI, 5, .inl (fun q_ => nI (blows q_)))), (x_nw, .inr (8, [.int (nI np), .ref a1, .ref a2, .ref a3, .ref a4, .int (nI nh), .ref a5, .ref a6, .ref a7])), (a3, .inl (cI, 3, .inl (fun q_ => nI (learnt q_))))]) (z_pf hP) [0, 3, 4, 5, 1, 10] rfl) (va_recv hK hP (ci := 10) (q0 := 0) rfl rfl) rfl (Nat.le_of_ble_eq_true rfl) dX10_digest_65 ⟨Nat.zero_le _, Nat.zero_le _⟩) (fun r hr => ?_)
                    subst hr
                    refine lv_i2l (v := (zLesson lessons hard blows learnt np (nI i2) (nI i3)).toInt64) hx hb dX10_digest_68 rfl ?_
                    refine vp_callSl (z_runS (As := [.long y3, .long ((zLesson lessons hard blows learnt np (nI i2) (nI i3)).toInt64)]) (rest := []) hx hb hml hown hts hK hN hl.1 (c_X10_mix l D cI cB cP y3 ((zLesson lessons hard blows learnt np (nI i2) (nI i3)).toInt64)) gX10_digest_X10_mix rfl zd_X10_mix rfl (Nat.le_of_ble_eq_true rfl) (Nat.le_of_ble_eq_true rfl) z_p0 rfl (Nat.le_of_ble_eq_true rfl) dX10_digest_69 ⟨Nat.zero_le _, Nat.zero_le _⟩) (fun r hr => ?_)
                    subst hr
                    refine lv_lstore_n (lv' := [(1, .long (31 * y3 + ((zLesson lessons hard blows learnt np (nI i2) (nI i3)).toInt64))), (4, .int (nI i3)), (3, .int (nI i2)), (0, .ref x)]) hx hb dX10_digest_72 rfl hl (by decide) rfl (fun ls hl => ?_)
                    refine lv_iinc (v := nI (i3 + 1)) (lv' := [(4, .int (nI (i3 + 1))), (1, .long (31 * y3 + ((zLesson lessons hard blows learnt np (nI i2) (nI i3)).toInt64))), (3, .int (nI i2)), (0, .ref x)]) hx hb dX10_digest_73 hl (k := 1) rfl (nI_add (i3) 1) (by decide) rfl (fun ls hl => ?_)
                    refine lv_goto (tgt := 54) hx hb dX10_digest_76 (by decide) ?_
                    exact ih_54 (31 * y3 + ((zLesson lessons hard blows learnt np (nI i2) (nI i3)).toInt64)) (i3 + 1) (by omega) (by rw [zMx, hy3]) (by omega) ls (lv_sub hl [0, 2, 1, 3] rfl)
              exact loop_54 _ y2 0 (Nat.zero_le _) (rfl) (Nat.lt_succ_self _) ls hl
        exact loop_40 _ y1 0 (Nat.zero_le _) (by show y1 = zMxS _ _; rw [hy1, zMxS]; first | rw [if_pos (by omega), show i1 = 3 by omega] | (rw [if_neg (by omega), show i1 = 0 by omega]; rfl)) (Nat.lt_succ_self _) ls hl
  exact loop_6 _ 877 0 (Nat.zero_le _) (rfl) (Or.inl rfl) (Nat.lt_succ_self _) ls hl
