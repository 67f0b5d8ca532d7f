theorem zMN_nat : True := trivial
/-- by how many tenths the princes fail a lesson in all, by a row of MATCHES -/
def zFt (kd wt fond hard : Nat → Nat) (l row : Nat) : Nat → Nat
  | 0 => 0
  | p + 1 => zFt kd wt fond hard l row p + (10 - zTen (wt p) (kd p) (fond (p * 3 + zMN (row + p))) (hard l))
theorem zFt_le {kd wt fond hard : Nat → Nat} {l row : Nat} : ∀ n, zFt kd wt fond hard l row n ≤ 10 * n := by
  intro n
  induction n with
  | zero => rw [zFt]; omega
  | succ n ih => rw [zFt]; omega
def zBm (kd wt fond hard : Nat → Nat) (l np : Nat) : Nat → Nat × Nat
  | 0 => (0, zFt kd wt fond hard l 0 np)
  | j + 1 => if zFt kd wt fond hard l (3 * (j + 1)) np < (zBm kd wt fond hard l np j).2 then (3 * (j + 1), zFt kd wt fond hard l (3 * (j + 1)) np) else zBm kd wt fond hard l np j
def zRow (kd wt fond hard : Nat → Nat) (l np : Nat) : Nat := (zBm kd wt fond hard l np 5).1
theorem zBm_lt {kd wt fond hard : Nat → Nat} {l np : Nat} : ∀ j, (zBm kd wt fond hard l np j).1 ≤ 3 * j ∧ (zBm kd wt fond hard l np j).2 = zFt kd wt fond hard l (zBm kd wt fond hard l np j).1 np := by
  intro j
  induction j with
  | zero => exact ⟨Nat.le_refl _, rfl⟩
  | succ j ih =>
    rw [zBm]
    split
    · exact ⟨Nat.le_refl _, rfl⟩
    · exact ⟨by omega, ih.2⟩
def zMatch (kd wt fond hard blows : Nat → Nat) (np lessons : Nat) (l w : Int32) : Int32 :=
  if l < 0 ∨ ¬ l < nI lessons then -101 else if ¬ (w = 0 ∨ w = 1 ∨ (¬ w < 10 ∧ w < nI 13)) then -102
  else if w < 10 then nI ((if w = 0 then zFt kd wt fond hard l.toNatClampNeg (zRow kd wt fond hard l.toNatClampNeg np) np * blows l.toNatClampNeg else 10) / Nat.gcd (zFt kd wt fond hard l.toNatClampNeg (zRow kd wt fond hard l.toNatClampNeg np) np * blows l.toNatClampNeg) 10)
  else if w.toNatClampNeg - 10 < np then nI (zMN (zRow kd wt fond hard l.toNatClampNeg np + (w.toNatClampNeg - 10))) else -1
theorem zMatch_lo {kd wt fond hard blows : Nat → Nat} {np lessons : Nat} {l w : Int32} (h1 : ¬ (l < 0 ∨ ¬ l < nI lessons)) (h2 : w = 0 ∨ w = 1 ∨ (¬ w < 10 ∧ w < nI 13)) (h3 : w < 10) : zMatch kd wt fond hard blows np lessons l w = nI ((if w = 0 then zFt kd wt fond hard l.toNatClampNeg (zRow kd wt fond hard l.toNatClampNeg np) np * blows l.toNatClampNeg else 10) / Nat.gcd (zFt kd wt fond hard l.toNatClampNeg (zRow kd wt fond hard l.toNatClampNeg np) np * blows l.toNatClampNeg) 10) := by
  unfold zMatch
  exact (if_neg h1).trans ((if_neg (fun h => h h2)).trans (if_pos h3))
theorem zMatch_hi {kd wt fond hard blows : Nat → Nat} {np lessons : Nat} {l : Int32} {p : Nat} (h1 : ¬ (l < 0 ∨ ¬ l < nI lessons)) (hp : p < 3) : zMatch kd wt fond hard blows np lessons l (nI (10 + p)) = if p < np then nI (zMN (zRow kd wt fond hard l.toNatClampNeg np + p)) else -1 := by
  have e : ∀ p, p < 3 → (¬ nI (10 + p) < 10 ∧ nI (10 + p) < nI 13) := by decide +kernel
  unfold zMatch
  refine (if_neg h1).trans ((if_neg (fun h => h (Or.inr (Or.inr (e p hp))))).trans ((if_neg (e p hp).1).trans ?_))
  rw [nI_clamp (by omega), show 10 + p - 10 = p by omega]
theorem z_w13 {w : Int32} (h : w = 0 ∨ w = 1 ∨ (¬ w < 10 ∧ w < nI 13)) (h2 : ¬ w < 10) : ∃ p : Nat, p < 3 ∧ w = nI (10 + p) := by
  have e10 : (10 : Int32) = nI 10 := rfl
  rcases h with rfl | rfl | ⟨h3, h4⟩
  · exact absurd (by decide) h2
  · exact absurd (by decide) h2
  · have h0 : ¬ w < 0 := by
      intro q
      apply h3
      rw [Int32.lt_iff_toInt_lt] at q ⊢
      have a0 : (0 : Int32).toInt = 0 := rfl
      have a1 : (10 : Int32).toInt = 10 := rfl
      omega
    obtain ⟨j, hj, rfl⟩ := z_natlt h0 h4 (by omega)
    rw [e10] at h3
    have := (not_congr (nI_ltI (a := j) (b := 10) (by omega) (by omega))).mp h3
    exact ⟨j - 10, by omega, by congr 1; omega⟩
abbrev rm_X10_at_X : Room := { frames := 0, cells := 0, slots := 0, locals := 0 }
set_option maxHeartbeats 4000000 in
set_option maxRecDepth 100000 in
theorem c_X10_at_X (l : Launch) (D : va_G) (cI cB cP : ClassId) (bM : Nat) (k : Nat) (hk : k < 18)  : zPiM l D cI cB cP bM yX10_at wsX10_at rm_X10_at_X [.ref bM, .int (nI k)] ([]) (fun r => r = nI (zMN k)) := by
  refine zPiM_of (cc := cX10_at) (maxL := 2) (by decide) rfl (Nat.le_of_ble_eq_true rfl) ?_
  intro p e s m args below meth c ls Q hx hb hml hts hown hP hK hN hM hl hret
  have hown : s.vm.findClass RX10 = some m.cls := hown
  have hl : lv_has ls 2 [(0, .ref bM), (1, .int (nI k))] := hl
  refine lv_iload_n hx hb dX10_at_0 rfl (lv_at hl 1 rfl) ?_
  refine lv_if_lt (tgt := 16) hx hb dX10_at_1 (by decide) (fun c => absurd c (nI_pos (by omega))) (fun _ => ?_)
  refine lv_iload_n hx hb dX10_at_4 rfl (lv_at hl 1 rfl) ?_
  refine lv_aload_n hx hb dX10_at_5 rfl (lv_at hl 0 rfl) ?_
  refine va_slen hx hb (A := fun _ => False) hM.2.1 hM.2.2 (fun h => h) va_S.rf dX10_at_6 ?_
  refine z_top (show Int32.ofNat 18 = 18 from rfl) ?_
  refine lv_icmp_ge (tgt := 16) hx hb dX10_at_7 (by decide) (fun c_1 => ?_) (fun c_1 => ?_)
  · skip
    have c_1 : 18 ≤ k := (nI_leI (a := 18) (b := k) (by omega) (by omega)).mp c_1
    exact absurd hk (by omega)
  · skip
    have c_1 : ¬ (18 ≤ k) := (not_congr (nI_leI (a := 18) (b := k) (by omega) (by omega))).mp c_1
    refine lv_aload_n hx hb dX10_at_10 rfl (lv_at hl 0 rfl) ?_
    refine lv_iload_n hx hb dX10_at_11 rfl (lv_at hl 1 rfl) ?_
    refine va_sld hx hb (A := fun _ => False) hM.2.1 hM.2.2 (fun h => h) va_S.rf (vp_in_nI (by omega) (by omega)) dX10_at_12 ?_
    refine z_top (y := nI (zMN k)) (z_ld (f := fun q_ => nI (zMN q_)) (a := k) (by omega) rfl) ?_
    refine lv_goto (tgt := 17) hx hb dX10_at_13 (by decide) ?_
    exact hret _ _ _ dX10_at_17 rfl

theorem zi_X10_failTenths_X10 : ∀ w ∈ wsX100, w ∈ wsX10_failTenths := fun _ h => List.mem_cons_of_mem _ (List.mem_append_left _ (List.mem_append_left _ (List.mem_append_left _ (List.mem_append_left _ (List.mem_append_left _ (List.mem_append_left _ (List.mem_append_left _ (List.mem_append_right _ (h)))))))))
theorem zi_X10_failTenths_X8 : ∀ w ∈ wsX80, w ∈ wsX10_failTenths := fun _ h => List.mem_cons_of_mem _ (List.mem_append_left _ (List.mem_append_left _ (List.mem_append_left _ (List.mem_append_left _ (List.mem_append_left _ (List.mem_append_left _ (List.mem_append_right _ (h))))))))
abbrev rm_X10_failTenths : Room := { frames := 3, cells := 0, slots := 0, locals := 66 }
set_option maxHeartbeats 4000000 in
set_option maxRecDepth 100000 in
theorem c_X10_failTenths (l : Launch) (D : va_G) (cI cB cP : ClassId) (bM : Nat) (x : Nat) (x_pg : Nat) (x_tx : Nat) (x_pr : Nat) (x_nw : Nat) (x_kp : Nat) (x_tr : Nat) (x_or : Nat) (x_bl : Nat) (hI : Nat) (tR : Nat) (tO : Nat) (np : Nat) (a1 : Nat) (a2 : Nat) (a3 : Nat) (a4 : Nat) (nh : Nat) (a5 : Nat) (a6 : Nat) (a7 : Nat) (t1 : Nat) (t2 : Nat) (lessons : Nat) (limit : Nat) (hard : Nat → Nat) (fond : Nat → Nat) (pool : va_W) (pr : Nat → Option Nat) (kd : Nat → Nat) (wt : Nat → Nat) (i : Nat) (row : Nat) (hnp : np ≤ 3) (hpool : zPool pool pr kd wt np) (hkd : ∀ i, kd i < 5) (hwt : ∀ i, wt i ≤ 9) (hfo : ∀ i, fond i ≤ 9) (hha : ∀ i, hard i ≤ 9) (hi5 : i < 5) (hrow : row ≤ 15)  : zPiM l D cI cB cP bM yX10_failTenths wsX10_failTenths rm_X10_failTenths [.ref x, .int (nI i), .int (nI row)] ([(x, .inr (10, [.ref x_pg, .ref x_tx, .ref x_pr, .ref x_nw, .ref x_kp, .ref x_tr, .ref x_or, .ref x_bl, .int (nI hI), .int (nI tR), .int (nI tO)])), (x_nw, .inr (8, [.int (nI np), .ref a1, .ref a2, .ref a3, .ref a4, .int (nI nh), .ref a5, .ref a6, .ref a7])), (x_pr, .inl (cP, 3, .inr (.inr (.inr (.inr (pr)))))), (x_tx, .inr (9, [.ref t1, .ref t2, .int (nI lessons), .int (nI limit)])), (t1, .inl (cI, 5, .inl (fun q_ => nI (hard q_)))), (a1, .inl (cI, 9, .inl (fun q_ => nI (fond q_))))] ++ pool) (fun r => r = nI (zFt kd wt fond hard i row np)) := by
  refine zPiM_of (cc := cX10_failTenths) (maxL := 7) (by decide) rfl (Nat.le_of_ble_eq_true rfl) ?_
  intro p e s m args below meth c ls Q hx hb hml hts hown hP hK hN hM hl hret
  have hown : s.vm.findClass RX10 = some m.cls := hown
  have hl : lv_has ls 7 [(0, .ref x), (1, .int (nI i)), (2, .int (nI row))] := hl
  refine lv_iconst (v := 0) hx hb dX10_failTenths_0 (by decide) ?_
  refine lv_istore_n (lv' := [(3, .int 0), (0, .ref x), (1, .int (nI i)), (2, .int (nI row))]) hx hb dX10_failTenths_1 rfl hl (by decide) rfl (fun ls hl => ?_)
  refine lv_iconst (v := 0) hx hb dX10_failTenths_2 (by decide) ?_
  refine lv_istore (lv' := [(4, .int 0), (3, .int 0), (0, .ref x), (1, .int (nI i)), (2, .int (nI row))]) hx hb dX10_failTenths_3 hl (by decide) rfl (fun ls hl => ?_)
  have loop_5 : ∀ (fu_5 : Nat) (y j : Nat), (j ≤ np) → (y = zFt kd wt fond hard i row j) → np - j < fu_5 → ∀ (ls : Array Slot), lv_has ls 7 [(4, .int (nI j)), (3, .int (nI y)), (0, .ref x), (1, .int (nI i)), (2, .int (nI row))] → W p l e rm_X10_failTenths s m args below meth c s.heap [] 0 0 Q (F0 m 5 ls []) := by
    intro fu_5
    induction fu_5 with
    | zero => intro y j hj hx1 hn_5; exact absurd hn_5 (by omega)
    | succ fu_5 ih_5 =>
      intro y j hj hx1 hn_5 ls hl
      have hxl : y ≤ 10 * j := by rw [hx1]; exact zFt_le j
      refine lv_iload hx hb dX10_failTenths_5 (lv_at hl 0 rfl) ?_
      refine lv_aload_n hx hb dX10_failTenths_7 rfl (lv_at hl 2 rfl) ?_
      refine va_get (D := D) (ci := 10) (v := .ref x_nw) (C := RX10) (T := TX10) (N := 11) hx hb hts zi_X10_failTenths_X10 hown hK hP 0 rfl rfl 3 (by decide) (hts (.fieldLink RX10 32 "BeatenInstead" "now" "LBeatenInstead$Standing;") (List.mem_of_getElem? (i := 1) rfl)) (fun _ h9 => h9) rfl dX10_failTenths_8 ?_
      refine va_getN (D := D) (ci := 8) (v := .int (nI np)) (C := RX8) (T := TX8) (N := 9) hx hb hts zi_X10_failTenths_X8 hown hK hP 1 rfl rfl 0 (by decide) (hN.w (w := .fieldLinkNest RX10 118 "BeatenInstead$Standing" "princes" "I" "BeatenInstead") 8 rfl rfl) (fun _ h9 => h9) rfl dX10_failTenths_11 ?_
      refine lv_icmp_ge (tgt := 75) hx hb dX10_failTenths_14 (by decide) (fun c_1 => ?_) (fun c_1 => ?_)
      · skip
        have c_1 : np ≤ j := (nI_leI (a := np) (b := j) (by omega) (by omega)).mp c_1
        refine lv_iload_n hx hb dX10_failTenths_75 rfl (lv_at hl 1 rfl) ?_
        exact hret _ _ _ dX10_failTenths_76 (by rw [hx1, show j = np by omega])
      · skip
        have c_1 : ¬ (np ≤ j) := (not_congr (nI_leI (a := np) (b := j) (by omega) (by omega))).mp c_1
        refine lv_aload_n hx hb dX10_failTenths_17 rfl (lv_at hl 2 rfl) ?_
        refine lv_iload hx hb dX10_failTenths_18 (lv_at hl 0 rfl) ?_
        refine va_csq (z_runV (b := x) (As := [.int (nI j)]) (rest := []) hx hb hml hown hts hK hN hl.1 (c_X10_princeOf l D cI cB cP x x_pg x_tx x_pr x_nw x_kp x_tr x_or x_bl hI tR tO np a1 a2 a3 a4 nh a5 a6 a7 pr (nI j) (by first | assumption | omega)) gX10_failTenths_X10_princeOf rfl zd_X10_princeOf rfl (Nat.le_of_ble_eq_true rfl) (Nat.le_of_ble_eq_true rfl) (va_P.sub (ws' := [(x, .inr (10, [.ref x_pg, .ref x_tx, .ref x_pr, .ref x_nw, .ref x_kp, .ref x_tr, .ref x_or, .ref x_bl, .int (nI hI), .int (nI tR), .int (nI tO)])), (x_nw, .inr (8, [.int (nI np), .ref a1, .ref a2, .ref a3, .ref a4, .int (nI nh), .ref a5, .ref a6, .ref a7])), (x_pr, .inl (cP, 3, .inr (.inr (.inr (.inr (pr))))))]) (z_pf hP) [0, 1, 2] rfl) (va_recv hK hP (ci := 10) (q0 := 0) rfl rfl) rfl (Nat.le_of_ble_eq_true rfl) dX10_failTenths_20 ⟨Nat.zero_le _, Nat.zero_le _⟩) (fun r hr => ?_)
        obtain ⟨a, rfl, hmem⟩ := z_po2 hr (by omega) hpool hnp
        refine lv_astore (lv' := [(5, .ref a), (4, .int (nI j)), (3, .int (nI y)), (0, .ref x), (1, .int (nI i)), (2, .int (nI row))]) hx hb dX10_failTenths_23 hl (by decide) rfl (fun ls hl => ?_)
        refine lv_aload hx hb dX10_failTenths_25 (lv_at hl 0 rfl) ?_
        refine lv_ifnull hx hb dX10_failTenths_27 ?_
        refine lv_aload_n hx hb dX10_failTenths_30 rfl (lv_at hl 3 rfl) ?_
        refine va_get (D := D) (ci := 10) (v := .ref x_nw) (C := RX10) (T := TX10) (N := 11) hx hb hts zi_X10_failTenths_X10 hown hK hP 0 rfl rfl 3 (by decide) (hts (.fieldLink RX10 32 "BeatenInstead" "now" "LBeatenInstead$Standing;") (List.mem_of_getElem? (i := 1) rfl)) (fun _ h9 => h9) rfl dX10_failTenths_31 ?_
        refine lv_iload hx hb dX10_failTenths_34 (lv_at hl 1 rfl) ?_
        refine va_gets hx hb hM.1 va_S.rf hown (hts (.fieldLink RX10 210 "BeatenInstead" "MATCHES" "[I") (List.mem_of_getElem? (i := 2) rfl)) (fun _ h9 => h9) dX10_failTenths_36 ?_
        refine lv_iload_n hx hb dX10_failTenths_39 rfl (lv_at hl 5 rfl) ?_
        have hz3 := zMN_lt (row + j)
        have hzt := @zTen_le (wt j) (kd j) (fond (j * 3 + zMN (row + j))) (hard i)
        refine lv_iload hx hb dX10_failTenths_40 (lv_at hl 1 rfl) ?_
        refine lv_iadd hx hb dX10_failTenths_42 ?_
        refine z_top (show ((nI row) + (nI j)) = nI (row + j) from nI_add row j) ?_
        refine vp_callSi (z_runSM (As := [.ref bM, .int (nI (row + j))]) (rest := [.int (nI j), .ref x_nw]) hx hb hml hown hts hK hN hl.1 (c_X10_at_X l D cI cB cP bM (row + j) (by omega)) hM gX10_failTenths_X10_at rfl zd_X10_at rfl (Nat.le_of_ble_eq_true rfl) (Nat.le_of_ble_eq_true rfl) z_p0 rfl (Nat.le_of_ble_eq_true rfl) dX10_failTenths_43 ⟨Nat.zero_le _, Nat.zero_le _⟩) (fun r hr => ?_)
        subst hr
        refine vp_callSi (z_runVN (b := x_nw) (As := [.int (nI j), .int (nI (zMN (row + j)))]) (rest := []) hx hb hml hown hts hK hN hl.1 (c_X8_fondOf l D cI cB cP x_nw np a1 a2 a3 a4 nh a5 a6 a7 fond j (zMN (row + j)) (by omega) (zMN_lt _)) gX10_failTenths_X8_fondOf_n149 rfl 46 rfl (List.mem_of_getElem? (i := 14) rfl) (List.mem_of_getElem? (i := 13) rfl) (List.mem_of_getElem? (i := 15) rfl) zd_X8_fondOf rfl (Nat.le_of_ble_eq_true rfl) (Nat.le_of_ble_eq_true rfl) (va_P.sub (ws' := [(x_nw, .inr (8, [.int (nI np), .ref a1, .ref a2, .ref a3, .ref a4, .int (nI nh), .ref a5, .ref a6, .ref a7])), (a1, .inl (cI, 9, .inl (fun q_ => nI (fond q_))))]) (z_pf hP) [1, 5] rfl) (va_recv hK hP (ci := 8) (q0 := 1) rfl rfl) rfl (Nat.le_of_ble_eq_true rfl) dX10_failTenths_46 ⟨Nat.zero_le _, Nat.zero_le _⟩) (fun r hr => ?_)
        subst hr
        refine lv_istore (lv' := [(6, .int (nI (fond (j * 3 + (zMN (row + j)))))), (5, .ref a), (4, .int (nI j)), (3, .int (nI y)), (0, .ref x), (1, .int (nI i)), (2, .int (nI row))]) hx hb dX10_failTenths_49 hl (by decide) rfl (fun ls hl => ?_)
        refine lv_iload_n hx hb dX10_failTenths_51 rfl (lv_at hl 3 rfl) ?_
        refine lv_bipush (v := (10)) hx hb dX10_failTenths_52 (by decide) ?_
        refine lv_aload_n hx hb dX10_failTenths_54 rfl (lv_at hl 4 rfl) ?_
        refine va_get (D := D) (ci := 10) (v := .ref x_tx) (C := RX10) (T := TX10) (N := 11) hx hb hts zi_X10_failTenths_X10 hown hK hP 0 rfl rfl 1 (by decide) (hts (.fieldLink RX10 19 "BeatenInstead" "text" "LBeatenInstead$Text;") (List.mem_of_getElem? (i := 3) rfl)) (fun _ h9 => h9) rfl dX10_failTenths_55 ?_
        refine lv_aload hx hb dX10_failTenths_58 (lv_at hl 1 rfl) ?_
        refine lv_iload hx hb dX10_failTenths_60 (lv_at hl 0 rfl) ?_
        refine lv_iload_n hx hb dX10_failTenths_62 rfl (lv_at hl 5 rfl) ?_
        refine vp_callSi (z_runVN (b := x_tx) (As := [.ref a, .int (nI (fond (j * 3 + (zMN (row + j))))), .int (nI i)]) (rest := [.int 10, .int (nI y)]) hx hb hml hown hts hK hN hl.1 (c_X9_tenthsFor l D cI cB cP x_tx t1 t2 lessons limit hard a (kd j) (wt j) (fond (j * 3 + (zMN (row + j)))) i (by omega) (by first | exact hkd _ | omega) (hwt _) (hfo _) (hha _)) gX10_failTenths_X9_tenthsFor_n164 rfl 49 rfl (List.mem_of_getElem? (i := 19) rfl) (List.mem_of_getElem? (i := 18) rfl) (List.mem_of_getElem? (i := 20) rfl) zd_X9_tenthsFor rfl (Nat.le_of_ble_eq_true rfl) (Nat.le_of_ble_eq_true rfl) (va_P.sub (ws' := [(x_tx, .inr (9, [.ref t1, .ref t2, .int (nI lessons), .int (nI limit)])), (t1, .inl (cI, 5, .inl (fun q_ => nI (hard q_)))), (a, .inr (zKi (kd j), [.int (nI (wt j))]))]) (va_P.app (z_pf hP) (z_p1 (z_pp hP) hmem)) [3, 4, 6] rfl) (va_recv hK hP (ci := 9) (q0 := 3) rfl rfl) rfl (Nat.le_of_ble_eq_true rfl) dX10_failTenths_63 ⟨Nat.zero_le _, Nat.zero_le _⟩) (fun r hr => ?_)
        subst hr
        refine lv_isub hx hb dX10_failTenths_66 ?_
        refine z_top (show (10 - (nI (zTen (wt j) (kd j) (fond (j * 3 + (zMN (row + j)))) (hard i)))) = nI (10 - (zTen (wt j) (kd j) (fond (j * 3 + (zMN (row + j)))) (hard i))) from pk_sub (a := 10) (b := zTen (wt j) (kd j) (fond (j * 3 + (zMN (row + j)))) (hard i)) (by omega)) ?_
        refine lv_iadd hx hb dX10_failTenths_67 ?_
        refine z_top (show ((nI y) + (nI (10 - (zTen (wt j) (kd j) (fond (j * 3 + (zMN (row + j)))) (hard i))))) = nI (y + (10 - (zTen (wt j) (kd j) (fond (j * 3 + (zMN (row + j)))) (hard i)))) from nI_add y (10 - (zTen (wt j) (kd j) (fond (j * 3 + (zMN (row + j)))) (hard i)))) ?_
        refine lv_istore_n (lv' := [(3, .int (nI (y + (10 - (zTen (wt j) (kd j) (fond (j * 3 + (zMN (row + j)))) (hard i)))))), (6, .int (nI (fond (j * 3 + (zMN (row + j)))))), (5, .ref a), (4, .int (nI j)), (0, .ref x), (1, .int (nI i)), (2, .int (nI row))]) hx hb dX10_failTenths_68 rfl hl (by decide) rfl (fun ls hl => ?_)
        refine lv_iinc (v := nI (j + 1)) (lv' := [(4, .int (nI (j + 1))), (3, .int (nI (y + (10 - (zTen (wt j) (kd j) (fond (j * 3 + (zMN (row + j)))) (hard i)))))), (6, .int (nI (fond (j * 3 + (zMN (row + j)))))), (5, .ref a), (0, .ref x), (1, .int (nI i)), (2, .int (nI row))]) hx hb dX10_failTenths_69 hl (k := 3) rfl (nI_add (j) 1) (by decide) rfl (fun ls hl => ?_)
        refine lv_goto (tgt := 5) hx hb dX10_failTenths_72 (by decide) ?_
        exact ih_5 (y + (10 - (zTen (wt j) (kd j) (fond (j * 3 + (zMN (row + j)))) (hard i)))) (j + 1) (by omega) (by rw [zFt, hx1]) (by omega) ls (lv_sub hl [0, 1, 4, 5, 6] rfl)
  exact loop_5 _ 0 0 (Nat.zero_le _) (rfl) (Nat.lt_succ_self _) ls hl

abbrev rm_X10_bestMatch : Room := { frames := 4, cells := 0, slots := 0, locals := 92 }
set_option maxHeartbeats 4000000 in
set_option maxRecDepth 100000 in
theorem c_X10_bestMatch (l : Launch) (D : va_G) (cI cB cP : ClassId) (bM : Nat) (x : Nat) (x_pg : Nat) (x_tx : Nat) (x_pr : Nat) (x_nw : Nat) (x_kp : Nat) (x_tr : Nat) (x_or : Nat) (x_bl : Nat) (hI : Nat) (tR : Nat) (tO : Nat) (np : Nat) (a1 : Nat) (a2 : Nat) (a3 : Nat) (a4 : Nat) (nh : Nat) (a5 : Nat) (a6 : Nat) (a7 : Nat) (t1 : Nat) (t2 : Nat) (lessons : Nat) (limit : Nat) (hard : Nat → Nat) (fond : Nat → Nat) (pool : va_W) (pr : Nat → Option Nat) (kd : Nat → Nat) (wt : Nat → Nat) (i : Nat) (hnp : np ≤ 3) (hpool : zPool pool pr kd wt np) (hkd : ∀ i, kd i < 5) (hwt : ∀ i, wt i ≤ 9) (hfo : ∀ i, fond i ≤ 9) (hha : ∀ i, hard i ≤ 9) (hi5 : i < 5)  : zPiM l D cI cB cP bM yX10_bestMatch wsX10_bestMatch rm_X10_bestMatch [.ref x, .int (nI i)] ([(x, .inr (10, [.ref x_pg, .ref x_tx, .ref x_pr, .ref x_nw, .ref x_kp, .ref x_tr, .ref x_or, .ref x_bl, .int (nI hI), .int (nI tR), .int (nI tO)])), (x_nw, .inr (8, [.int (nI np), .ref a1, .ref a2, .ref a3, .ref a4, .int (nI nh), .ref a5, .ref a6, .ref a7])), (x_pr, .inl (cP, 3, .inr (.inr (.inr (.inr (pr)))))), (x_tx, .inr (9, [.ref t1, .ref t2, .int (nI lessons), .int (nI limit)])), (t1, .inl (cI, 5, .inl (fun q_ => nI (hard q_)))), (a1, .inl (cI, 9, .inl (fun q_ => nI (fond q_))))] ++ pool) (fun r => r = nI (zRow kd wt fond hard i np)) := by
  refine zPiM_of (cc := cX10_bestMatch) (maxL := 6) (by decide) rfl (Nat.le_of_ble_eq_true rfl) ?_
  intro p e s m args below meth c ls Q hx hb hml hts hown hP hK hN hM hl hret
  have hown : s.vm.findClass RX10 = some m.cls := hown
  have hl : lv_has ls 6 [(0, .ref x), (1, .int (nI i))] := hl
  refine lv_iconst (v := 0) hx hb dX10_bestMatch_0 (by decide) ?_
  refine lv_istore_n (lv' := [(2, .int 0), (0, .ref x), (1, .int (nI i))]) hx hb dX10_bestMatch_1 rfl hl (by decide) rfl (fun ls hl => ?_)
  have hfl0 : zFt kd wt fond hard i 0 np ≤ 10 * np := zFt_le np
  refine lv_aload_n hx hb dX10_bestMatch_2 rfl (lv_at hl 1 rfl) ?_
  refine lv_iload_n hx hb dX10_bestMatch_3 rfl (lv_at hl 2 rfl) ?_
  refine lv_iload_n hx hb dX10_bestMatch_4 rfl (lv_at hl 0 rfl) ?_
  refine vp_callSi (z_runVM (b := x) (As := [.int (nI i), .int 0]) (rest := []) hx hb hml hown hts hK hN hl.1 (c_X10_failTenths l D cI cB cP bM x x_pg x_tx x_pr x_nw x_kp x_tr x_or x_bl hI tR tO np a1 a2 a3 a4 nh a5 a6 a7 t1 t2 lessons limit hard fond pool pr kd wt i 0 (by first | assumption | omega) (by first | assumption | omega) (by first | exact hkd _ | omega) (by first | assumption | omega) (by first | assumption | omega) (by first | assumption | omega) (by first | assumption | omega) (by first | assumption | omega)) hM gX10_bestMatch_X10_failTenths rfl zd_X10_failTenths rfl (Nat.le_of_ble_eq_true rfl) (Nat.le_of_ble_eq_true rfl) (va_P.app (va_P.sub (ws' := [(x, .inr (10, [.ref x_pg, .ref x_tx, .ref x_pr, .ref x_nw, .ref x_kp, .ref x_tr, .ref x_or, .ref x_bl, .int (nI hI), .int (nI tR), .int (nI tO)])), (x_nw, .inr (8, [.int (nI np), .ref a1, .ref a2, .ref a3, .ref a4, .int (nI nh), .ref a5, .ref a6, .ref a7])), (x_pr, .inl (cP, 3, .inr (.inr (.inr (.inr (pr)))))), (x_tx, .inr (9, [.ref t1, .ref t2, .int (nI lessons), .int (nI limit)])), (t1, .inl (cI, 5, .inl (fun q_ => nI (hard q_)))), (a1, .inl (cI, 9, .inl (fun q_ => nI (fond q_))))]) (z_pf hP) [0, 1, 2, 3, 4, 5] rfl) (z_pp hP)) (va_recv hK hP (ci := 10) (q0 := 0) rfl rfl) rfl (Nat.le_of_ble_eq_true rfl) dX10_bestMatch_5 ⟨Nat.zero_le _, Nat.zero_le _⟩) (fun r hr => ?_)
  subst hr
  refine lv_istore_n (lv' := [(3, .int (nI (zFt kd wt fond hard i 0 np))), (2, .int 0), (0, .ref x), (1, .int (nI i))]) hx hb dX10_bestMatch_8 rfl hl (by decide) rfl (fun ls hl => ?_)
  refine lv_iconst (v := 3) hx hb dX10_bestMatch_9 (by decide) ?_
  refine lv_istore (lv' := [(4, .int 3), (3, .int (nI (zFt kd wt fond hard i 0 np))), (2, .int 0), (0, .ref x), (1, .int (nI i))]) hx hb dX10_bestMatch_10 hl (by decide) rfl (fun ls hl => ?_)
  have loop_12 : ∀ (fu_12 : Nat) (b f j r : Nat), (j ≤ 5) → (r = 3 * (j + 1)) → ((b, f) = zBm kd wt fond hard i np j) → 5 - j < fu_12 → ∀ (ls : Array Slot), lv_has ls 6 [(4, .int (nI r)), (3, .int (nI f)), (2, .int (nI b)), (0, .ref x), (1, .int (nI i))] → W p l e rm_X10_bestMatch s m args below meth c s.heap [] 0 0 Q (F0 m 12 ls []) := by
    intro fu_12
    induction fu_12 with
    | zero => intro b f j r hj hr3 hE hn_12; exact absurd hn_12 (by omega)
    | succ fu_12 ih_12 =>
      intro b f j r hj hr3 hE hn_12 ls hl
      have hfl : zFt kd wt fond hard i r np ≤ 10 * np := zFt_le np
      have hf2 : f ≤ 10 * np := by have e1 := (zBm_lt (kd := kd) (wt := wt) (fond := fond) (hard := hard) (l := i) (np := np) j).2; rw [← hE] at e1; exact (by rw [show f = zFt kd wt fond hard i b np from e1]; exact zFt_le np)
      refine lv_iload hx hb dX10_bestMatch_12 (lv_at hl 0 rfl) ?_
      refine va_gets hx hb hM.1 va_S.rf hown (hts (.fieldLink RX10 210 "BeatenInstead" "MATCHES" "[I") (List.mem_of_getElem? (i := 1) rfl)) (fun _ h9 => h9) dX10_bestMatch_14 ?_
      refine va_slen hx hb (A := fun _ => False) hM.2.1 hM.2.2 (fun h => h) va_S.rf dX10_bestMatch_17 ?_
      refine z_top (show Int32.ofNat 18 = 18 from rfl) ?_
      refine lv_icmp_ge (tgt := 48) hx hb dX10_bestMatch_18 (by decide) (fun c_1 => ?_) (fun c_1 => ?_)
      · skip
        have c_1 : 18 ≤ r := (nI_leI (a := 18) (b := r) (by omega) (by omega)).mp c_1
        refine lv_iload_n hx hb dX10_bestMatch_48 rfl (lv_at hl 2 rfl) ?_
        exact hret _ _ _ dX10_bestMatch_49 (by rw [zRow, show (5 : Nat) = j by omega, ← hE])
      · skip
        have c_1 : ¬ (18 ≤ r) := (not_congr (nI_leI (a := 18) (b := r) (by omega) (by omega))).mp c_1
        refine lv_aload_n hx hb dX10_bestMatch_21 rfl (lv_at hl 3 rfl) ?_
        refine lv_iload_n hx hb dX10_bestMatch_22 rfl (lv_at hl 4 rfl) ?_
        refine lv_iload hx hb dX10_bestMatch_23 (lv_at hl 0 rfl) ?_
        refine vp_callSi (z_runVM (b := x) (As := [.int (nI i), .int (nI r)]) (rest := []) hx hb hml hown hts hK hN hl.1 (c_X10_failTenths l D cI cB cP bM x x_pg x_tx x_pr x_nw x_kp x_tr x_or x_bl hI tR tO np a1 a2 a3 a4 nh a5 a6 a7 t1 t2 lessons limit hard fond pool pr kd wt i r (by first | assumption | omega) (by first | assumption | omega) (by first | exact hkd _ | omega) (by first | assumption | omega) (by first | assumption | omega) (by first | assumption | omega) (by first | assumption | omega) (by first | assumption | omega)) hM gX10_bestMatch_X10_failTenths rfl zd_X10_failTenths rfl (Nat.le_of_ble_eq_true rfl) (Nat.le_of_ble_eq_true rfl) (va_P.app (va_P.sub (ws' := [(x, .inr (10, [.ref x_pg, .ref x_tx, .ref x_pr, .ref x_nw, .ref x_kp, .ref x_tr, .ref x_or, .ref x_bl, .int (nI hI), .int (nI tR), .int (nI tO)])), (x_nw, .inr (8, [.int (nI np), .ref a1, .ref a2, .ref a3, .ref a4, .int (nI nh), .ref a5, .ref a6, .ref a7])), (x_pr, .inl (cP, 3, .inr (.inr (.inr (.inr (pr)))))), (x_tx, .inr (9, [.ref t1, .ref t2, .int (nI lessons), .int (nI limit)])), (t1, .inl (cI, 5, .inl (fun q_ => nI (hard q_)))), (a1, .inl (cI, 9, .inl (fun q_ => nI (fond q_))))]) (z_pf hP) [0, 1, 2, 3, 4, 5] rfl) (z_pp hP)) (va_recv hK hP (ci := 10) (q0 := 0) rfl rfl) rfl (Nat.le_of_ble_eq_true rfl) dX10_bestMatch_25 ⟨Nat.zero_le _, Nat.zero_le _⟩) (fun r hr => ?_)
        subst hr
        refine lv_istore (lv' := [(5, .int (nI (zFt kd wt fond hard i r np))), (4, .int (nI r)), (3, .int (nI f)), (2, .int (nI b)), (0, .ref x), (1, .int (nI i))]) hx hb dX10_bestMatch_28 hl (by decide) rfl (fun ls hl => ?_)
        refine lv_iload hx hb dX10_bestMatch_30 (lv_at hl 0 rfl) ?_
        refine lv_iload_n hx hb dX10_bestMatch_32 rfl (lv_at hl 2 rfl) ?_
        refine lv_icmp_ge (tgt := 42) hx hb dX10_bestMatch_33 (by decide) (fun c_2 => ?_) (fun c_2 => ?_)
        · skip
          have c_2 : f ≤ zFt kd wt fond hard i r np := (nI_leI (a := f) (b := zFt kd wt fond hard i r np) (by omega) (by omega)).mp c_2
          refine lv_iinc (v := nI (r + 3)) (lv' := [(4, .int (nI (r + 3))), (5, .int (nI (zFt kd wt fond hard i r np))), (3, .int (nI f)), (2, .int (nI b)), (0, .ref x), (1, .int (nI i))]) hx hb dX10_bestMatch_42 hl (k := 1) rfl (nI_add (r) 3) (by decide) rfl (fun ls hl => ?_)
          refine lv_goto (tgt := 12) hx hb dX10_bestMatch_45 (by decide) ?_
          exact ih_12 b f (j + 1) (r + 3) (by omega) (by omega) (by rw [zBm, ← hE, ← hr3]; exact (if_neg (by show ¬ _ < f; omega)).symm) (by omega) ls (lv_sub hl [0, 2, 3, 4, 5] rfl)
        · skip
          have c_2 : ¬ (f ≤ zFt kd wt fond hard i r np) := (not_congr (nI_leI (a := f) (b := zFt kd wt fond hard i r np) (by omega) (by omega))).mp c_2
          refine lv_iload hx hb dX10_bestMatch_36 (lv_at hl 0 rfl) ?_
          refine lv_istore_n (lv' := [(3, .int (nI (zFt kd wt fond hard i r np))), (5, .int (nI (zFt kd wt fond hard i r np))), (4, .int (nI r)), (2, .int (nI b)), (0, .ref x), (1, .int (nI i))]) hx hb dX10_bestMatch_38 rfl hl (by decide) rfl (fun ls hl => ?_)
          refine lv_iload hx hb dX10_bestMatch_39 (lv_at hl 2 rfl) ?_
          refine lv_istore_n (lv' := [(2, .int (nI r)), (3, .int (nI (zFt kd wt fond hard i r np))), (5, .int (nI (zFt kd wt fond hard i r np))), (4, .int (nI r)), (0, .ref x), (1, .int (nI i))]) hx hb dX10_bestMatch_41 rfl hl (by decide) rfl (fun ls hl => ?_)
          refine lv_iinc (v := nI (r + 3)) (lv' := [(4, .int (nI (r + 3))), (2, .int (nI r)), (3, .int (nI (zFt kd wt fond hard i r np))), (5, .int (nI (zFt kd wt fond hard i r np))), (0, .ref x), (1, .int (nI i))]) hx hb dX10_bestMatch_42 hl (k := 3) rfl (nI_add (r) 3) (by decide) rfl (fun ls hl => ?_)
          refine lv_goto (tgt := 12) hx hb dX10_bestMatch_45 (by decide) ?_
          exact ih_12 r (zFt kd wt fond hard i r np) (j + 1) (r + 3) (by omega) (by omega) (by rw [zBm, ← hE, ← hr3]; exact (if_pos (by show _ < f; omega)).symm) (by omega) ls (lv_sub hl [0, 2, 1, 4, 5] rfl)
  exact loop_12 _ 0 (zFt kd wt fond hard i 0 np) 0 3 (by omega) (by omega) (rfl) (Nat.lt_succ_self _) ls hl

theorem zi_X10_match_X10 : ∀ w ∈ wsX100, w ∈ wsX10_match := fun _ h => List.mem_cons_of_mem _ (List.mem_append_left _ (List.mem_append_left _ (List.mem_append_left _ (List.mem_append_left _ (List.mem_append_left _ (List.mem_append_left _ (List.mem_append_left _ (List.mem_append_right _ (h)))))))))
theorem zi_X10_match_X8 : ∀ w ∈ wsX80, w ∈ wsX10_match := fun _ h => List.mem_cons_of_mem _ (List.mem_append_left _ (List.mem_append_left _ (List.mem_append_left _ (List.mem_append_left _ (List.mem_append_left _ (List.mem_append_left _ (List.mem_append_right _ (h))))))))
abbrev rm_X10_match : Room := { frames := 5, cells := 0, slots := 0, locals := 117 }
set_option maxHeartbeats 4000000 in
set_option maxRecDepth 100000 in
theorem c_X10_match (l : Launch) (D : va_G) (cI cB cP : ClassId) (bM : Nat) (x : Nat) (x_pg : Nat) (x_tx : Nat) (x_pr : Nat) (x_nw : Nat) (x_kp : Nat) (x_tr : Nat) (x_or : Nat) (x_bl : Nat) (hI : Nat) (tR : Nat) (tO : Nat) (np : Nat) (a1 : Nat) (a2 : Nat) (a3 : Nat) (a4 : Nat) (nh : Nat) (a5 : Nat) (a6 : Nat) (a7 : Nat) (t1 : Nat) (t2 : Nat) (lessons : Nat) (limit : Nat) (hard : Nat → Nat) (blows : Nat → Nat) (fond : Nat → Nat) (pool : va_W) (pr : Nat → Option Nat) (kd : Nat → Nat) (wt : Nat → Nat) (l_ : Int32) (w : Int32) (hnp : np ≤ 3) (hpool : zPool pool pr kd wt np) (hkd : ∀ i, kd i < 5) (hwt : ∀ i, wt i ≤ 9) (hfo : ∀ i, fond i ≤ 9) (hha : ∀ i, hard i ≤ 9) (hbl : ∀ i, blows i ≤ 9) (hls : lessons ≤ 5)  : zPiM l D cI cB cP bM yX10_match wsX10_match rm_X10_match [.ref x, .int l_, .int w] ([(x, .inr (10, [.ref x_pg, .ref x_tx, .ref x_pr, .ref x_nw, .ref x_kp, .ref x_tr, .ref x_or, .ref x_bl, .int (nI hI), .int (nI tR), .int (nI tO)])), (x_nw, .inr (8, [.int (nI np), .ref a1, .ref a2, .ref a3, .ref a4, .int (nI nh), .ref a5, .ref a6, .ref a7])), (x_pr, .inl (cP, 3, .inr (.inr (.inr (.inr (pr)))))), (x_tx, .inr (9, [.ref t1, .ref t2, .int (nI lessons), .int (nI limit)])), (t1, .inl (cI, 5, .inl (fun q_ => nI (hard q_)))), (t2, .inl (cI, 5, .inl (fun q_ => nI (blows q_)))), (a1, .inl (cI, 9, .inl (fun q_ => nI (fond q_))))] ++ pool) (fun r => r = zMatch kd wt fond hard blows np lessons l_ w) := by
  refine zPiM_of (cc := cX10_match) (maxL := 6) (by decide) rfl (Nat.le_of_ble_eq_true rfl) ?_
  intro p e s m args below meth c ls Q hx hb hml hts hown hP hK hN hM hl hret
  have hown : s.vm.findClass RX10 = some m.cls := hown
  have hl : lv_has ls 6 [(0, .ref x), (1, .int l_), (2, .int w)] := hl
  refine lv_aload_n hx hb dX10_match_0 rfl (lv_at hl 0 rfl) ?_
  refine va_get (D := D) (ci := 10) (v := .ref x_tx) (C := RX10) (T := TX10) (N := 11) hx hb hts zi_X10_match_X10 hown hK hP 0 rfl rfl 1 (by decide) (hts (.fieldLink RX10 19 "BeatenInstead" "text" "LBeatenInstead$Text;") (List.mem_of_getElem? (i := 1) rfl)) (fun _ h9 => h9) rfl dX10_match_1 ?_
  refine lv_iload_n hx hb dX10_match_4 rfl (lv_at hl 1 rfl) ?_
  refine vp_callSi (z_runVN (b := x_tx) (As := [.int l_]) (rest := []) hx hb hml hown hts hK hN hl.1 (c_X9_has l D cI cB cP x_tx t1 t2 lessons limit l_) gX10_match_X9_has_n92 rfl 32 rfl (List.mem_of_getElem? (i := 6) rfl) (List.mem_of_getElem? (i := 5) rfl) (List.mem_of_getElem? (i := 7) rfl) zd_X9_has rfl (Nat.le_of_ble_eq_true rfl) (Nat.le_of_ble_eq_true rfl) (va_P.sub (ws' := [(x_tx, .inr (9, [.ref t1, .ref t2, .int (nI lessons), .int (nI limit)]))]) (z_pf hP) [3] rfl) (va_recv hK hP (ci := 9) (q0 := 3) rfl rfl) rfl (Nat.le_of_ble_eq_true rfl) dX10_match_5 ⟨Nat.zero_le _, Nat.zero_le _⟩) (fun r hr => ?_)
  rcases hr with ⟨rfl, c_1⟩ | ⟨rfl, c_1⟩
  · skip
    refine lv_if_ne (tgt := 14) hx hb dX10_match_8 (by decide) (fun _ => ?_) (fun c => absurd c (by decide))
    refine lv_iload_n hx hb dX10_match_14 rfl (lv_at hl 2 rfl) ?_
    refine lv_iconst (v := 3) hx hb dX10_match_15 (by decide) ?_
    refine vp_callSi (z_runS (As := [.int w, .int 3]) (rest := []) hx hb hml hown hts hK hN hl.1 (c_X10_isMeanOrRow l D cI cB cP w 3 (by first | assumption | omega)) gX10_match_X10_isMeanOrRow rfl zd_X10_isMeanOrRow rfl (Nat.le_of_ble_eq_true rfl) (Nat.le_of_ble_eq_true rfl) z_p0 rfl (Nat.le_of_ble_eq_true rfl) dX10_match_16 ⟨Nat.zero_le _, Nat.zero_le _⟩) (fun r hr => ?_)
    rcases hr with ⟨rfl, c_2⟩ | ⟨rfl, c_2⟩
    · skip
      refine lv_if_ne (tgt := 25) hx hb dX10_match_19 (by decide) (fun _ => ?_) (fun c => absurd c (by decide))
      obtain ⟨i, hi_, rfl⟩ := z_natlt c_1.1 c_1.2 (by omega)
      have hrw : zRow kd wt fond hard i np ≤ 15 := (zBm_lt 5).1
      have hfl : zFt kd wt fond hard i (zRow kd wt fond hard i np) np ≤ 10 * np := zFt_le np
      have hbli := hbl i
      have hmm : zFt kd wt fond hard i (zRow kd wt fond hard i np) np * blows i ≤ 30 * 9 := Nat.mul_le_mul (by omega) hbli
      refine lv_aload_n hx hb dX10_match_25 rfl (lv_at hl 0 rfl) ?_
      refine lv_iload_n hx hb dX10_match_26 rfl (lv_at hl 1 rfl) ?_
      refine vp_callSi (z_runVM (b := x) (As := [.int (nI i)]) (rest := []) hx hb hml hown hts hK hN hl.1 (c_X10_bestMatch l D cI cB cP bM x x_pg x_tx x_pr x_nw x_kp x_tr x_or x_bl hI tR tO np a1 a2 a3 a4 nh a5 a6 a7 t1 t2 lessons limit hard fond pool pr kd wt i (by first | assumption | omega) (by first | assumption | omega) (by first | exact hkd _ | omega) (by first | assumption | omega) (by first | assumption | omega) (by first | assumption | omega) (by first | assumption | omega)) hM gX10_match_X10_bestMatch rfl zd_X10_bestMatch rfl (Nat.le_of_ble_eq_true rfl) (Nat.le_of_ble_eq_true rfl) (va_P.app (va_P.sub (ws' := [(x, .inr (10, [.ref x_pg, .ref x_tx, .ref x_pr, .ref x_nw, .ref x_kp, .ref x_tr, .ref x_or, .ref x_bl, .int (nI hI), .int (nI tR), .int (nI tO)])), (x_nw, .inr (8, [.int (nI np), .ref a1, .ref a2, .ref a3, .ref a4, .int (nI nh), .ref a5, .ref a6, .ref a7])), (x_pr, .inl (cP, 3, .inr (.inr (.inr (.inr (pr)))))), (x_tx, .inr (9, [.ref t1, .ref t2, .int (nI lessons), .int (nI limit)])), (t1, .inl (cI, 5, .inl (fun q_ => nI (hard q_)))), (a1, .inl (cI, 9, .inl (fun q_ => nI (fond q_))))]) (z_pf hP) [0, 1, 2, 3, 4, 6] rfl) (z_pp hP)) (va_recv hK hP (ci := 10) (q0 := 0) rfl rfl) rfl (Nat.le_of_ble_eq_true rfl) dX10_match_27 ⟨Nat.zero_le _, Nat.zero_le _⟩) (fun r hr => ?_)
      subst hr
      refine lv_istore_n (lv' := [(3, .int (nI (zRow kd wt fond hard i np))), (0, .ref x), (1, .int (nI i)), (2, .int w)]) hx hb dX10_match_30 rfl hl (by decide) rfl (fun ls hl => ?_)
      refine lv_iload_n hx hb dX10_match_31 rfl (lv_at hl 3 rfl) ?_
      refine lv_bipush (v := (10)) hx hb dX10_match_32 (by decide) ?_
      refine lv_icmp_lt (tgt := 70) hx hb dX10_match_34 (by decide) (fun c_3 => ?_) (fun c_3 => ?_)
      · skip
        refine lv_aload_n hx hb dX10_match_70 rfl (lv_at hl 1 rfl) ?_
        refine lv_iload_n hx hb dX10_match_71 rfl (lv_at hl 2 rfl) ?_
        refine lv_iload_n hx hb dX10_match_72 rfl (lv_at hl 0 rfl) ?_
        refine vp_callSi (z_runVM (b := x) (As := [.int (nI i), .int (nI (zRow kd wt fond hard i np))]) (rest := []) hx hb hml hown hts hK hN hl.1 (c_X10_failTenths l D cI cB cP bM x x_pg x_tx x_pr x_nw x_kp x_tr x_or x_bl hI tR tO np a1 a2 a3 a4 nh a5 a6 a7 t1 t2 lessons limit hard fond pool pr kd wt i (zRow kd wt fond hard i np) (by first | assumption | omega) (by first | assumption | omega) (by first | exact hkd _ | omega) (by first | assumption | omega) (by first | assumption | omega) (by first | assumption | omega) (by first | assumption | omega) (by first | assumption | omega)) hM gX10_match_X10_failTenths rfl zd_X10_failTenths rfl (Nat.le_of_ble_eq_true rfl) (Nat.le_of_ble_eq_true rfl) (va_P.app (va_P.sub (ws' := [(x, .inr (10, [.ref x_pg, .ref x_tx, .ref x_pr, .ref x_nw, .ref x_kp, .ref x_tr, .ref x_or, .ref x_bl, .int (nI hI), .int (nI tR), .int (nI tO)])), (x_nw, .inr (8, [.int (nI np), .ref a1, .ref a2, .ref a3, .ref a4, .int (nI nh), .ref a5, .ref a6, .ref a7])), (x_pr, .inl (cP, 3, .inr (.inr (.inr (.inr (pr)))))), (x_tx, .inr (9, [.ref t1, .ref t2, .int (nI lessons), .int (nI limit)])), (t1, .inl (cI, 5, .inl (fun q_ => nI (hard q_)))), (a1, .inl (cI, 9, .inl (fun q_ => nI (fond q_))))]) (z_pf hP) [0, 1, 2, 3, 4, 6] rfl) (z_pp hP)) (va_recv hK hP (ci := 10) (q0 := 0) rfl rfl) rfl (Nat.le_of_ble_eq_true rfl) dX10_match_73 ⟨Nat.zero_le _, Nat.zero_le _⟩) (fun r hr => ?_)
        subst hr
        refine lv_i2l (v := lN (zFt kd wt fond hard i (zRow kd wt fond hard i np) np)) hx hb dX10_match_76 (nI_l (by omega)) ?_
        refine lv_aload_n hx hb dX10_match_77 rfl (lv_at hl 1 rfl) ?_
        refine va_get (D := D) (ci := 10) (v := .ref x_tx) (C := RX10) (T := TX10) (N := 11) hx hb hts zi_X10_match_X10 hown hK hP 0 rfl rfl 1 (by decide) (hts (.fieldLink RX10 19 "BeatenInstead" "text" "LBeatenInstead$Text;") (List.mem_of_getElem? (i := 1) rfl)) (fun _ h9 => h9) rfl dX10_match_78 ?_
        refine lv_iload_n hx hb dX10_match_81 rfl (lv_at hl 2 rfl) ?_
        refine vp_callSi (z_runVN (b := x_tx) (As := [.int (nI i)]) (rest := [.long (lN (zFt kd wt fond hard i (zRow kd wt fond hard i np) np))]) hx hb hml hown hts hK hN hl.1 (c_X9_blowsOf l D cI cB cP x_tx t1 t2 lessons limit blows i (by omega)) gX10_match_X9_blowsOf_n100 rfl 35 rfl (List.mem_of_getElem? (i := 6) rfl) (List.mem_of_getElem? (i := 78) rfl) (List.mem_of_getElem? (i := 79) rfl) zd_X9_blowsOf rfl (Nat.le_of_ble_eq_true rfl) (Nat.le_of_ble_eq_true rfl) (va_P.sub (ws' := [(x_tx, .inr (9, [.ref t1, .ref t2, .int (nI lessons), .int (nI limit)])), (t2, .inl (cI, 5, .inl (fun q_ => nI (blows q_))))]) (z_pf hP) [3, 5] rfl) (va_recv hK hP (ci := 9) (q0 := 3) rfl rfl) rfl (Nat.le_of_ble_eq_true rfl) dX10_match_82 ⟨Nat.zero_le _, Nat.zero_le _⟩) (fun r hr => ?_)
        subst hr
        refine lv_i2l (v := lN (blows i)) hx hb dX10_match_85 (nI_l (by omega)) ?_
        refine lv_lmul hx hb dX10_match_86 ?_
        refine z_topl (show ((lN (zFt kd wt fond hard i (zRow kd wt fond hard i np) np)) * (lN (blows i))) = lN ((zFt kd wt fond hard i (zRow kd wt fond hard i np) np) * (blows i)) from lN_mul (zFt kd wt fond hard i (zRow kd wt fond hard i np) np) (blows i)) ?_
        refine lv_lstore (lv' := [(4, .long (lN ((zFt kd wt fond hard i (zRow kd wt fond hard i np) np) * (blows i)))), (3, .int (nI (zRow kd wt fond hard i np))), (0, .ref x), (1, .int (nI i)), (2, .int w)]) hx hb dX10_match_87 hl (by decide) rfl (fun ls hl => ?_)
        refine lv_lload hx hb dX10_match_89 (lv_at hl 0 rfl) ?_
        refine lv_ldc2 (v := (10)) hx hb hown (hts (.constantLong RX10 221 (10)) (List.mem_of_getElem? (i := 4) rfl)) dX10_match_91 ?_
        refine lv_iload_n hx hb dX10_match_94 rfl (lv_at hl 4 rfl) ?_
        refine vp_callSl (z_runS (As := [.long (lN ((zFt kd wt fond hard i (zRow kd wt fond hard i np) np) * (blows i))), .long 10, .int w]) (rest := []) hx hb hml hown hts hK hN hl.1 (c_X10_inLowestTerms l D cI cB cP ((zFt kd wt fond hard i (zRow kd wt fond hard i np) np) * (blows i)) 10 w (by omega) (by omega) (by omega)) gX10_match_X10_inLowestTerms rfl zd_X10_inLowestTerms rfl (Nat.le_of_ble_eq_true rfl) (Nat.le_of_ble_eq_true rfl) z_p0 rfl (Nat.le_of_ble_eq_true rfl) dX10_match_95 ⟨Nat.zero_le _, Nat.zero_le _⟩) (fun r hr => ?_)
        subst hr
        refine lv_l2i (v := nI ((if w = 0 then ((zFt kd wt fond hard i (zRow kd wt fond hard i np) np) * (blows i)) else 10) / Nat.gcd ((zFt kd wt fond hard i (zRow kd wt fond hard i np) np) * (blows i)) 10)) hx hb dX10_match_98 (lN_i _) ?_
        exact hret _ _ _ dX10_match_99 (by rw [zMatch_lo (z_l5 hi_ hls) c_2 c_3, nI_clamp (by omega)])
      · skip
        obtain ⟨pw, hpw, rfl⟩ := z_w13 c_2 c_3
        refine lv_iload_n hx hb dX10_match_37 rfl (lv_at hl 3 rfl) ?_
        refine lv_bipush (v := (10)) hx hb dX10_match_38 (by decide) ?_
        refine lv_isub hx hb dX10_match_40 ?_
        refine z_top (show ((nI (10 + pw)) - 10) = nI pw from by have := pk_sub (a := 10 + pw) (b := 10) (by omega); rw [show (10 : Int32) = nI 10 from rfl, this]; congr 1; omega) ?_
        refine lv_istore (lv' := [(4, .int (nI pw)), (3, .int (nI (zRow kd wt fond hard i np))), (0, .ref x), (1, .int (nI i)), (2, .int (nI (10 + pw)))]) hx hb dX10_match_41 hl (by decide) rfl (fun ls hl => ?_)
        refine lv_iload hx hb dX10_match_43 (lv_at hl 0 rfl) ?_
        refine lv_aload_n hx hb dX10_match_45 rfl (lv_at hl 2 rfl) ?_
        refine va_get (D := D) (ci := 10) (v := .ref x_nw) (C := RX10) (T := TX10) (N := 11) hx hb hts zi_X10_match_X10 hown hK hP 0 rfl rfl 3 (by decide) (hts (.fieldLink RX10 32 "BeatenInstead" "now" "LBeatenInstead$Standing;") (List.mem_of_getElem? (i := 2) rfl)) (fun _ h9 => h9) rfl dX10_match_46 ?_
        refine va_getN (D := D) (ci := 8) (v := .int (nI np)) (C := RX8) (T := TX8) (N := 9) hx hb hts zi_X10_match_X8 hown hK hP 1 rfl rfl 0 (by decide) (hN.w (w := .fieldLinkNest RX10 118 "BeatenInstead$Standing" "princes" "I" "BeatenInstead") 8 rfl rfl) (fun _ h9 => h9) rfl dX10_match_49 ?_
        refine lv_icmp_ge (tgt := 68) hx hb dX10_match_52 (by decide) (fun c_4 => ?_) (fun c_4 => ?_)
        · skip
          have c_4 : np ≤ pw := (nI_leI (a := np) (b := pw) (by omega) (by omega)).mp c_4
          refine lv_iconst (v := (-1)) hx hb dX10_match_68 (by decide) ?_
          exact hret _ _ _ dX10_match_69 (by rw [zMatch_hi (z_l5 hi_ hls) hpw, nI_clamp (by omega)]; first | rw [if_pos (by omega)] | rw [if_neg (by omega)])
        · skip
          have c_4 : ¬ (np ≤ pw) := (not_congr (nI_leI (a := np) (b := pw) (by omega) (by omega))).mp c_4
          refine va_gets hx hb hM.1 va_S.rf hown (hts (.fieldLink RX10 210 "BeatenInstead" "MATCHES" "[I") (List.mem_of_getElem? (i := 3) rfl)) (fun _ h9 => h9) dX10_match_55 ?_
          refine lv_iload_n hx hb dX10_match_58 rfl (lv_at hl 1 rfl) ?_
          refine lv_iload hx hb dX10_match_59 (lv_at hl 0 rfl) ?_
          refine lv_iadd hx hb dX10_match_61 ?_
          refine z_top (show ((nI (zRow kd wt fond hard i np)) + (nI pw)) = nI (zRow kd wt fond hard i np + pw) from nI_add (zRow kd wt fond hard i np) pw) ?_
          refine vp_callSi (z_runSM (As := [.ref bM, .int (nI (zRow kd wt fond hard i np + pw))]) (rest := []) hx hb hml hown hts hK hN hl.1 (c_X10_at_X l D cI cB cP bM (zRow kd wt fond hard i np + pw) (by omega)) hM gX10_match_X10_at rfl zd_X10_at rfl (Nat.le_of_ble_eq_true rfl) (Nat.le_of_ble_eq_true rfl) z_p0 rfl (Nat.le_of_ble_eq_true rfl) dX10_match_62 ⟨Nat.zero_le _, Nat.zero_le _⟩) (fun r hr => ?_)
          subst hr
          refine lv_goto (tgt := 69) hx hb dX10_match_65 (by decide) ?_
          exact hret _ _ _ dX10_match_69 (by rw [zMatch_hi (z_l5 hi_ hls) hpw, nI_clamp (by omega)]; first | rw [if_pos (by omega)] | rw [if_neg (by omega)])
    · skip
      refine lv_if_ne (tgt := 25) hx hb dX10_match_19 (by decide) (fun c => absurd c (by decide)) (fun _ => ?_)
      refine lv_bipush (v := (-102)) hx hb dX10_match_22 (by decide) ?_
      exact hret _ _ _ dX10_match_24 (by rw [zMatch, if_neg (fun h => h.elim c_1.1 (fun h => h c_1.2)), if_pos c_2])
  · skip
    refine lv_if_ne (tgt := 14) hx hb dX10_match_8 (by decide) (fun c => absurd c (by decide)) (fun _ => ?_)
    refine lv_bipush (v := (-101)) hx hb dX10_match_11 (by decide) ?_
    exact hret _ _ _ dX10_match_13 (by rw [zMatch, if_pos (z_nl c_1)])
