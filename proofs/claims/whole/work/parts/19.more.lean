theorem z_lor {b c : Nat} (hb : b < 2 ^ 31) (hc : c < 2 ^ 31) : nI b ||| nI c = nI (b ||| c) := by
  rw [← Int32.toBitVec_inj]
  have e : ∀ n, n < 2 ^ 31 → (nI n).toBitVec.toNat = n := fun n h => pk_tn (by omega)
  have h1 : b ||| c < 2 ^ 31 := Nat.or_lt_two_pow hb hc
  apply BitVec.eq_of_toNat_eq
  rw [Int32.toBitVec_or, BitVec.toNat_or, e b hb, e c hc, e _ h1]
def zLetR (size : Nat) (code : Int32) : Int32 := if code < 32 ∨ 126 < code then -102 else if 18 ≤ size then -104 else nI (size + 1)
def zLetS (size : Nat) (code : Int32) : Nat := if (code < 32 ∨ 126 < code) ∨ 18 ≤ size then size else size + 1
def zLetC (codes : Nat → Nat) (size : Nat) (code : Int32) : Nat → Nat := if (code < 32 ∨ 126 < code) ∨ 18 ≤ size then codes else va_up codes size code.toNatClampNeg
theorem z_code {code : Int32} (h1 : ¬ code < 32) (h2 : ¬ 126 < code) : ∃ k : Nat, 32 ≤ k ∧ k < 127 ∧ code = nI k := by
  have e0 : (0 : Int32).toInt = 0 := rfl
  have e32 : (32 : Int32).toInt = 32 := rfl
  have e126 : (126 : Int32).toInt = 126 := rfl
  rw [Int32.lt_iff_toInt_lt, e32] at h1
  rw [Int32.lt_iff_toInt_lt, e126] at h2
  have h0 : ¬ code < 0 := by rw [Int32.lt_iff_toInt_lt, e0]; omega
  obtain ⟨j, hj, rfl⟩ := nI_of h0
  rw [nI_toInt hj] at h1 h2
  exact ⟨j, by omega, by omega, rfl⟩
def zWhole (c : Nat → Nat) (n : Nat) : Prop := zFault c n = n ∧ 2 ≤ n ∧ c (n - 2) = 59
def zBad (np : Nat) (n : Int32) : Prop := n < 0 ∨ ¬ n < nI np
theorem z_pn' {np p : Nat} (h : p < np) (hnp : np ≤ 3) : ¬ zBad np (nI p) := z_pn h hnp
/-- lessons heard of one prince agree with a fondness -/
def zCan (t g : Nat) : Prop := (g = 0 ∧ t < 10) ∨ (g ≠ 0 ∧ 0 < t)
def zCanB (t g : Nat) : Bool := if g = 0 then decide (t < 10) else decide (0 < t)
theorem zCanB_iff {t g : Nat} : zCanB t g = true ↔ zCan t g := by
  unfold zCanB zCan
  split
  · simp_all
  · simp_all
def zAg (qp ql qr hard : Nat → Nat) (w k p f : Nat) : Nat → Bool
  | 0 => true
  | n + 1 => zAg qp ql qr hard w k p f n && (if qp n = p then zCanB (zTen w k f (hard (ql n))) (qr n) else true)
theorem zAg_false {qp ql qr hard : Nat → Nat} {w k p f : Nat} : ∀ {m n : Nat}, n ≤ m → zAg qp ql qr hard w k p f n = false → zAg qp ql qr hard w k p f m = false := by
  intro m
  induction m with
  | zero => intro n h1 h2; rwa [show n = 0 by omega] at h2
  | succ m ih =>
    intro n h1 h2
    by_cases e : n = m + 1
    · rwa [e] at h2
    · rw [zAg, ih (by omega) h2]; rfl
def zFns (qp ql qr hard : Nat → Nat) (w k p nh : Nat) : Nat → Nat
  | 0 => 0
  | v + 1 => if zAg qp ql qr hard w k p v nh = true then zFns qp ql qr hard w k p nh v ||| 2 ^ v else zFns qp ql qr hard w k p nh v
theorem zFns_lt {qp ql qr hard : Nat → Nat} {w k p nh : Nat} : ∀ v, zFns qp ql qr hard w k p nh v < 2 ^ v := by
  intro v
  induction v with
  | zero => rw [zFns]; omega
  | succ v ih =>
    rw [zFns]
    have h1 : (2 : Nat) ^ v < 2 ^ (v + 1) := Nat.pow_lt_pow_right (by omega) (by omega)
    split
    · exact Nat.or_lt_two_pow (by omega) h1
    · omega
def zFondness (qp ql qr hard : Nat → Nat) (kd wt : Nat → Nat) (np nh : Nat) (n : Int32) : Int32 := if n < 0 ∨ ¬ n < nI np then -101 else nI (zFns qp ql qr hard (wt n.toNatClampNeg) (kd n.toNatClampNeg) n.toNatClampNeg nh 10)
def zCount (lessons limit np : Nat) (stripes : Nat → Int32) (learnt : Nat → Nat) (nh size tR tO : Nat) (w : Int32) : Int32 :=
  if w = 0 then nI lessons else if w = 1 then nI limit else if w = 2 then nI np else if w = 3 then zSum stripes 3 else if w = 4 then nI (zPops learnt np) else if w = 5 then nI nh else if w = 6 then nI size else if w = 7 then nI tR else if w = 8 then nI tO else -102
theorem zi_X10_count_X10 : ∀ w ∈ wsX100, w ∈ wsX10_count := fun _ h => List.mem_cons_of_mem _ (List.mem_append_left _ (List.mem_append_left _ (List.mem_append_left _ (List.mem_append_right _ (h)))))
theorem zi_X10_count_X5 : ∀ w ∈ wsX50, w ∈ wsX10_count := fun _ h => List.mem_cons_of_mem _ (List.mem_append_right _ (h))
theorem zi_X10_count_X8 : ∀ w ∈ wsX80, w ∈ wsX10_count := fun _ h => List.mem_cons_of_mem _ (List.mem_append_left _ (List.mem_append_right _ (h)))
theorem zi_X10_count_X9 : ∀ w ∈ wsX90, w ∈ wsX10_count := fun _ h => List.mem_cons_of_mem _ (List.mem_append_left _ (List.mem_append_left _ (List.mem_append_right _ (h))))
abbrev rm_X10_count : Room := { frames := 3, cells := 0, slots := 0, locals := 64 }
set_option maxHeartbeats 4000000 in
set_option maxRecDepth 100000 in
theorem c_X10_count (l : Launch) (D : va_G) (cI cB cP : ClassId) (x : Nat) (x_pg : Nat) (x_tx : Nat) (x_pr : Nat) (x_nw : Nat) (x_kp : Nat) (x_tr : Nat) (x_or : Nat) (x_bl : Nat) (hI : Nat) (tR : Nat) (tO : Nat) (np : Nat) (a1 : Nat) (a2 : Nat) (a3 : Nat) (a4 : Nat) (nh : Nat) (a5 : Nat) (a6 : Nat) (a7 : Nat) (t1 : Nat) (t2 : Nat) (lessons : Nat) (limit : Nat) (g1 : Nat) (size : Nat) (stripes : Nat → Int32) (learnt : Nat → Nat) (w : Int32) (hnp : np ≤ 3) (hle : ∀ i, learnt i < 32)  : zPi l D cI cB cP yX10_count wsX10_count rm_X10_count [.ref x, .int w] ([(x, .inr (10, [.ref x_pg, .ref x_tx, .ref x_pr, .ref x_nw, .ref x_kp, .ref x_tr, .ref x_or, .ref x_bl, .int (nI hI), .int (nI tR), .int (nI tO)])), (x_tx, .inr (9, [.ref t1, .ref t2, .int (nI lessons), .int (nI limit)])), (x_nw, .inr (8, [.int (nI np), .ref a1, .ref a2, .ref a3, .ref a4, .int (nI nh), .ref a5, .ref a6, .ref a7])), (x_pg, .inr (5, [.ref g1, .int (nI size)])), (a4, .inl (cI, 3, .inl (stripes))), (a3, .inl (cI, 3, .inl (fun q_ => nI (learnt q_))))]) (fun r => r = zCount lessons limit np stripes learnt nh size tR tO w) := by
  refine zPi_of (cc := cX10_count) (maxL := 2) (by decide) rfl (Nat.le_of_ble_eq_true rfl) ?_
  intro p e s m args below meth c ls Q hx hb hml hts hown hP hK hN hl hret
  have hown : s.vm.findClass RX10 = some m.cls := hown
  have hl : lv_has ls 2 [(0, .ref x), (1, .int w)] := hl
  refine lv_iload_n hx hb dX10_count_0 rfl (lv_at hl 1 rfl) ?_
  by_cases w_0 : w = 0
  · subst w_0
    refine lv_tableIn (tgt := 52) (off := 51) hx hb dX10_count_1 (by decide +kernel) (by decide +kernel) (by decide +kernel) (by decide) ?_
    refine lv_aload_n hx hb dX10_count_52 rfl (lv_at hl 0 rfl) ?_
    refine va_get (D := D) (ci := 10) (v := .ref x_tx) (C := RX10) (T := TX10) (N := 11) hx hb hts zi_X10_count_X10 hown hK hP 0 rfl rfl 1 (by decide) (hts (.fieldLink RX10 19 "BeatenInstead" "text" "LBeatenInstead$Text;") (List.mem_of_getElem? (i := 1) rfl)) (fun _ h9 => h9) rfl dX10_count_53 ?_
    refine va_getN (D := D) (ci := 9) (v := .int (nI lessons)) (C := RX9) (T := TX9) (N := 4) hx hb hts zi_X10_count_X9 hown hK hP 1 rfl rfl 2 (by decide) (hN.w (w := .fieldLinkNest RX10 89 "BeatenInstead$Text" "lessons" "I" "BeatenInstead") 4 rfl rfl) (fun _ h9 => h9) rfl dX10_count_56 ?_
    exact hret _ _ _ dX10_count_59 rfl
  by_cases w_1 : w = 1
  · subst w_1
    refine lv_tableIn (tgt := 60) (off := 59) hx hb dX10_count_1 (by decide +kernel) (by decide +kernel) (by decide +kernel) (by decide) ?_
    refine lv_aload_n hx hb dX10_count_60 rfl (lv_at hl 0 rfl) ?_
    refine va_get (D := D) (ci := 10) (v := .ref x_tx) (C := RX10) (T := TX10) (N := 11) hx hb hts zi_X10_count_X10 hown hK hP 0 rfl rfl 1 (by decide) (hts (.fieldLink RX10 19 "BeatenInstead" "text" "LBeatenInstead$Text;") (List.mem_of_getElem? (i := 1) rfl)) (fun _ h9 => h9) rfl dX10_count_61 ?_
    refine va_getN (D := D) (ci := 9) (v := .int (nI limit)) (C := RX9) (T := TX9) (N := 4) hx hb hts zi_X10_count_X9 hown hK hP 1 rfl rfl 3 (by decide) (hN.w (w := .fieldLinkNest RX10 256 "BeatenInstead$Text" "limit" "I" "BeatenInstead") 7 rfl rfl) (fun _ h9 => h9) rfl dX10_count_64 ?_
    exact hret _ _ _ dX10_count_67 rfl
  by_cases w_2 : w = 2
  · subst w_2
    refine lv_tableIn (tgt := 68) (off := 67) hx hb dX10_count_1 (by decide +kernel) (by decide +kernel) (by decide +kernel) (by decide) ?_
    refine lv_aload_n hx hb dX10_count_68 rfl (lv_at hl 0 rfl) ?_
    refine va_get (D := D) (ci := 10) (v := .ref x_nw) (C := RX10) (T := TX10) (N := 11) hx hb hts zi_X10_count_X10 hown hK hP 0 rfl rfl 3 (by decide) (hts (.fieldLink RX10 32 "BeatenInstead" "now" "LBeatenInstead$Standing;") (List.mem_of_getElem? (i := 2) rfl)) (fun _ h9 => h9) rfl dX10_count_69 ?_
    refine va_getN (D := D) (ci := 8) (v := .int (nI np)) (C := RX8) (T := TX8) (N := 9) hx hb hts zi_X10_count_X8 hown hK hP 2 rfl rfl 0 (by decide) (hN.w (w := .fieldLinkNest RX10 118 "BeatenInstead$Standing" "princes" "I" "BeatenInstead") 8 rfl rfl) (fun _ h9 => h9) rfl dX10_count_72 ?_
    exact hret _ _ _ dX10_count_75 rfl
  by_cases w_3 : w = 3
  · subst w_3
    refine lv_tableIn (tgt := 76) (off := 75) hx hb dX10_count_1 (by decide +kernel) (by decide +kernel) (by decide +kernel) (by decide) ?_
    refine lv_aload_n hx hb dX10_count_76 rfl (lv_at hl 0 rfl) ?_
    refine va_get (D := D) (ci := 10) (v := .ref x_nw) (C := RX10) (T := TX10) (N := 11) hx hb hts zi_X10_count_X10 hown hK hP 0 rfl rfl 3 (by decide) (hts (.fieldLink RX10 32 "BeatenInstead" "now" "LBeatenInstead$Standing;") (List.mem_of_getElem? (i := 2) rfl)) (fun _ h9 => h9) rfl dX10_count_77 ?_
    refine vp_callSi (z_runVN (b := x_nw) (As := []) (rest := []) hx hb hml hown hts hK hN hl.1 (c_X8_allStripes l D cI cB cP x_nw np a1 a2 a3 a4 nh a5 a6 a7 stripes) gX10_count_X8_allStripes_n250 rfl 72 rfl (List.mem_of_getElem? (i := 7) rfl) (List.mem_of_getElem? (i := 6) rfl) (List.mem_of_getElem? (i := 8) rfl) zd_X8_allStripes rfl (Nat.le_of_ble_eq_true rfl) (Nat.le_of_ble_eq_true rfl) (va_P.sub (ws' := [(x_nw, .inr (8, [.int (nI np), .ref a1, .ref a2, .ref a3, .ref a4, .int (nI nh), .ref a5, .ref a6, .ref a7])), (a4, .inl (cI, 3, .inl (stripes)))]) hP [2, 4] rfl) (va_recv hK hP (ci := 8) (q0 := 2) rfl rfl) rfl (Nat.le_of_ble_eq_true rfl) dX10_count_80 ⟨Nat.zero_le _, Nat.zero_le _⟩) (fun r hr => ?_)
    subst hr
    exact hret _ _ _ dX10_count_83 rfl
  by_cases w_4 : w = 4
  · subst w_4
    refine lv_tableIn (tgt := 84) (off := 83) hx hb dX10_count_1 (by decide +kernel) (by decide +kernel) (by decide +kernel) (by decide) ?_
    refine lv_aload_n hx hb dX10_count_84 rfl (lv_at hl 0 rfl) ?_
    refine va_get (D := D) (ci := 10) (v := .ref x_nw) (C := RX10) (T := TX10) (N := 11) hx hb hts zi_X10_count_X10 hown hK hP 0 rfl rfl 3 (by decide) (hts (.fieldLink RX10 32 "BeatenInstead" "now" "LBeatenInstead$Standing;") (List.mem_of_getElem? (i := 2) rfl)) (fun _ h9 => h9) rfl dX10_count_85 ?_
    refine vp_callSi (z_runVN (b := x_nw) (As := []) (rest := []) hx hb hml hown hts hK hN hl.1 (c_X8_allLearnt l D cI cB cP x_nw np a1 a2 a3 a4 nh a5 a6 a7 learnt (by first | assumption | omega) (hle)) gX10_count_X8_allLearnt_n253 rfl 74 rfl (List.mem_of_getElem? (i := 7) rfl) (List.mem_of_getElem? (i := 14) rfl) (List.mem_of_getElem? (i := 15) rfl) zd_X8_allLearnt rfl (Nat.le_of_ble_eq_true rfl) (Nat.le_of_ble_eq_true rfl) (va_P.sub (ws' := [(x_nw, .inr (8, [.int (nI np), .ref a1, .ref a2, .ref a3, .ref a4, .int (nI nh), .ref a5, .ref a6, .ref a7])), (a3, .inl (cI, 3, .inl (fun q_ => nI (learnt q_))))]) hP [2, 5] rfl) (va_recv hK hP (ci := 8) (q0 := 2) rfl rfl) rfl (Nat.le_of_ble_eq_true rfl) dX10_count_88 ⟨Nat.zero_le _, Nat.zero_le _⟩) (fun r hr => ?_)
    subst hr
    exact hret _ _ _ dX10_count_91 rfl
  by_cases w_5 : w = 5
  · subst w_5
    refine lv_tableIn (tgt := 92) (off := 91) hx hb dX10_count_1 (by decide +kernel) (by decide +kernel) (by decide +kernel) (by decide) ?_
    refine lv_aload_n hx hb dX10_count_92 rfl (lv_at hl 0 rfl) ?_
    refine va_get (D := D) (ci := 10) (v := .ref x_nw) (C := RX10) (T := TX10) (N := 11) hx hb hts zi_X10_count_X10 hown hK hP 0 rfl rfl 3 (by decide) (hts (.fieldLink RX10 32 "BeatenInstead" "now" "LBeatenInstead$Standing;") (List.mem_of_getElem? (i := 2) rfl)) (fun _ h9 => h9) rfl dX10_count_93 ?_
    refine va_getN (D := D) (ci := 8) (v := .int (nI nh)) (C := RX8) (T := TX8) (N := 9) hx hb hts zi_X10_count_X8 hown hK hP 2 rfl rfl 5 (by decide) (hN.w (w := .fieldLinkNest RX10 232 "BeatenInstead$Standing" "heard" "I" "BeatenInstead") 9 rfl rfl) (fun _ h9 => h9) rfl dX10_count_96 ?_
    exact hret _ _ _ dX10_count_99 rfl
  by_cases w_6 : w = 6
  · subst w_6
    refine lv_tableIn (tgt := 100) (off := 99) hx hb dX10_count_1 (by decide +kernel) (by decide +kernel) (by decide +kernel) (by decide) ?_
    refine lv_aload_n hx hb dX10_count_100 rfl (lv_at hl 0 rfl) ?_
    refine va_get (D := D) (ci := 10) (v := .ref x_pg) (C := RX10) (T := TX10) (N := 11) hx hb hts zi_X10_count_X10 hown hK hP 0 rfl rfl 0 (by decide) (hts (.fieldLink RX10 12 "BeatenInstead" "page" "LBeatenInstead$Page;") (List.mem_of_getElem? (i := 3) rfl)) (fun _ h9 => h9) rfl dX10_count_101 ?_
    refine va_getN (D := D) (ci := 5) (v := .int (nI size)) (C := RX5) (T := TX5) (N := 2) hx hb hts zi_X10_count_X5 hown hK hP 3 rfl rfl 1 (by decide) (hN.w (w := .fieldLinkNest RX10 67 "BeatenInstead$Page" "size" "I" "BeatenInstead") 1 rfl rfl) (fun _ h9 => h9) rfl dX10_count_104 ?_
    exact hret _ _ _ dX10_count_107 rfl
  by_cases w_7 : w = 7
  · subst w_7
    refine lv_tableIn (tgt := 108) (off := 107) hx hb dX10_count_1 (by decide +kernel) (by decide +kernel) (by decide +kernel) (by decide) ?_
    refine lv_aload_n hx hb dX10_count_108 rfl (lv_at hl 0 rfl) ?_
    refine va_get (D := D) (ci := 10) (v := .int (nI tR)) (C := RX10) (T := TX10) (N := 11) hx hb hts zi_X10_count_X10 hown hK hP 0 rfl rfl 9 (by decide) (hts (.fieldLink RX10 60 "BeatenInstead" "timesRead" "I") (List.mem_of_getElem? (i := 4) rfl)) (fun _ h9 => h9) rfl dX10_count_109 ?_
    exact hret _ _ _ dX10_count_112 rfl
  by_cases w_8 : w = 8
  · subst w_8
    refine lv_tableIn (tgt := 113) (off := 112) hx hb dX10_count_1 (by decide +kernel) (by decide +kernel) (by decide +kernel) (by decide) ?_
    refine lv_aload_n hx hb dX10_count_113 rfl (lv_at hl 0 rfl) ?_
    refine va_get (D := D) (ci := 10) (v := .int (nI tO)) (C := RX10) (T := TX10) (N := 11) hx hb hts zi_X10_count_X10 hown hK hP 0 rfl rfl 10 (by decide) (hts (.fieldLink RX10 64 "BeatenInstead" "timesOrdered" "I") (List.mem_of_getElem? (i := 5) rfl)) (fun _ h9 => h9) rfl dX10_count_114 ?_
    exact hret _ _ _ dX10_count_117 rfl
  refine lv_tableOut (tgt := 118) hx hb dX10_count_1 (by have e0 := z_ne (k := 0) w_0 (by omega); have e1 := z_ne (k := 1) w_1 (by omega); have e2 := z_ne (k := 2) w_2 (by omega); have e3 := z_ne (k := 3) w_3 (by omega); have e4 := z_ne (k := 4) w_4 (by omega); have e5 := z_ne (k := 5) w_5 (by omega); have e6 := z_ne (k := 6) w_6 (by omega); have e7 := z_ne (k := 7) w_7 (by omega); have e8 := z_ne (k := 8) w_8 (by omega); omega) (by decide) ?_
  refine lv_bipush (v := (-102)) hx hb dX10_count_118 (by decide) ?_
  exact hret _ _ _ dX10_count_120 (by simp [zCount, w_0, w_1, w_2, w_3, w_4, w_5, w_6, w_7, w_8])

theorem zi_X10_agreesWithHeard_X10 : ∀ w ∈ wsX100, w ∈ wsX10_agreesWithHeard := fun _ h => List.mem_cons_of_mem _ (List.mem_append_left _ (List.mem_append_left _ (List.mem_append_left _ (List.mem_append_left _ (List.mem_append_left _ (List.mem_append_left _ (List.mem_append_left _ (List.mem_append_right _ (h)))))))))
theorem zi_X10_agreesWithHeard_X8 : ∀ w ∈ wsX80, w ∈ wsX10_agreesWithHeard := fun _ h => List.mem_cons_of_mem _ (List.mem_append_left _ (List.mem_append_left _ (List.mem_append_left _ (List.mem_append_left _ (List.mem_append_left _ (List.mem_append_left _ (List.mem_append_right _ (h))))))))
abbrev rm_X10_agreesWithHeard : Room := { frames := 3, cells := 0, slots := 0, locals := 66 }
set_option maxHeartbeats 4000000 in
set_option maxRecDepth 100000 in
theorem c_X10_agreesWithHeard (l : Launch) (D : va_G) (cI cB cP : ClassId) (x : Nat) (x_pg : Nat) (x_tx : Nat) (x_pr : Nat) (x_nw : Nat) (x_kp : Nat) (x_tr : Nat) (x_or : Nat) (x_bl : Nat) (hI : Nat) (tR : Nat) (tO : Nat) (np : Nat) (a1 : Nat) (a2 : Nat) (a3 : Nat) (a4 : Nat) (nh : Nat) (a5 : Nat) (a6 : Nat) (a7 : Nat) (t1 : Nat) (t2 : Nat) (lessons : Nat) (limit : Nat) (hard : Nat → Nat) (qp : Nat → Nat) (ql : Nat → Nat) (qr : Nat → Nat) (pp : Nat) (w0 : Nat) (k0 : Nat) (wit : Nat) (f : Nat) (hkd5 : k0 < 5) (hw : wit ≤ 9) (hf : f ≤ 9) (hha : ∀ i, hard i ≤ 9) (hnh : nh ≤ 6) (hql : ∀ i, ql i < 5) (hqr : ∀ i, qr i < 2) (hpp : pp < 3) (hqp : ∀ i, qp i < 3)  : zPi l D cI cB cP yX10_agreesWithHeard wsX10_agreesWithHeard rm_X10_agreesWithHeard [.ref x, .int (nI pp), .ref w0, .int (nI f)] ([(x, .inr (10, [.ref x_pg, .ref x_tx, .ref x_pr, .ref x_nw, .ref x_kp, .ref x_tr, .ref x_or, .ref x_bl, .int (nI hI), .int (nI tR), .int (nI tO)])), (x_tx, .inr (9, [.ref t1, .ref t2, .int (nI lessons), .int (nI limit)])), (t1, .inl (cI, 5, .inl (fun q_ => nI (hard q_)))), (x_nw, .inr (8, [.int (nI np), .ref a1, .ref a2, .ref a3, .ref a4, .int (nI nh), .ref a5, .ref a6, .ref a7])), (a5, .inl (cI, 6, .inl (fun q_ => nI (qp q_)))), (a6, .inl (cI, 6, .inl (fun q_ => nI (ql q_)))), (a7, .inl (cI, 6, .inl (fun q_ => nI (qr q_)))), (w0, .inr (zKi k0, [.int (nI wit)]))]) (fun r => zB (zAg qp ql qr hard wit k0 pp f nh = true) r) := by
  refine zPz_of (cc := cX10_agreesWithHeard) (maxL := 6) (by decide) rfl (Nat.le_of_ble_eq_true rfl) ?_
  intro p e s m args below meth c ls Q hx hb hml hts hown hP hK hN hl hret
  have hown : s.vm.findClass RX10 = some m.cls := hown
  have hl : lv_has ls 6 [(0, .ref x), (1, .int (nI pp)), (2, .ref w0), (3, .int (nI f))] := hl
  refine lv_iconst (v := 0) hx hb dX10_agreesWithHeard_0 (by decide) ?_
  refine lv_istore (lv' := [(4, .int 0), (0, .ref x), (1, .int (nI pp)), (2, .ref w0), (3, .int (nI f))]) hx hb dX10_agreesWithHeard_1 hl (by decide) rfl (fun ls hl => ?_)
  have loop_3 : ∀ (fu_3 : Nat) (i : Nat), (i ≤ nh) → (zAg qp ql qr hard wit k0 pp f i = true) → nh - i < fu_3 → ∀ (ls : Array Slot), lv_has ls 6 [(4, .int (nI i)), (0, .ref x), (1, .int (nI pp)), (2, .ref w0), (3, .int (nI f))] → W p l e rm_X10_agreesWithHeard s m args below meth c s.heap [] 0 0 Q (F0 m 3 ls []) := by
    intro fu_3
    induction fu_3 with
    | zero => intro i hi hg hn_3; exact absurd hn_3 (by omega)
    | succ fu_3 ih_3 =>
      intro i hi hg hn_3 ls hl
      have hqpi := hqp i
      have hqri := hqr i
      have hqli := hql i
      refine lv_iload hx hb dX10_agreesWithHeard_3 (lv_at hl 0 rfl) ?_
      refine lv_aload_n hx hb dX10_agreesWithHeard_5 rfl (lv_at hl 1 rfl) ?_
      refine va_get (D := D) (ci := 10) (v := .ref x_nw) (C := RX10) (T := TX10) (N := 11) hx hb hts zi_X10_agreesWithHeard_X10 hown hK hP 0 rfl rfl 3 (by decide) (hts (.fieldLink RX10 32 "BeatenInstead" "now" "LBeatenInstead$Standing;") (List.mem_of_getElem? (i := 1) rfl)) (fun _ h9 => h9) rfl dX10_agreesWithHeard_6 ?_
      refine va_getN (D := D) (ci := 8) (v := .int (nI nh)) (C := RX8) (T := TX8) (N := 9) hx hb hts zi_X10_agreesWithHeard_X8 hown hK hP 3 rfl rfl 5 (by decide) (hN.w (w := .fieldLinkNest RX10 232 "BeatenInstead$Standing" "heard" "I" "BeatenInstead") 9 rfl rfl) (fun _ h9 => h9) rfl dX10_agreesWithHeard_9 ?_
      refine lv_icmp_ge (tgt := 90) hx hb dX10_agreesWithHeard_12 (by decide) (fun c_1 => ?_) (fun c_1 => ?_)
      · skip
        have c_1 : nh ≤ i := (nI_leI (a := nh) (b := i) (by omega) (by omega)).mp c_1
        refine lv_iconst (v := 1) hx hb dX10_agreesWithHeard_90 (by decide) ?_
        exact hret _ _ _ dX10_agreesWithHeard_91 rfl (zB.t (by rw [show nh = i by omega]; exact hg))
      · skip
        have c_1 : ¬ (nh ≤ i) := (not_congr (nI_leI (a := nh) (b := i) (by omega) (by omega))).mp c_1
        refine lv_aload_n hx hb dX10_agreesWithHeard_15 rfl (lv_at hl 1 rfl) ?_
        refine va_get (D := D) (ci := 10) (v := .ref x_nw) (C := RX10) (T := TX10) (N := 11) hx hb hts zi_X10_agreesWithHeard_X10 hown hK hP 0 rfl rfl 3 (by decide) (hts (.fieldLink RX10 32 "BeatenInstead" "now" "LBeatenInstead$Standing;") (List.mem_of_getElem? (i := 1) rfl)) (fun _ h9 => h9) rfl dX10_agreesWithHeard_16 ?_
        refine va_getN (D := D) (ci := 8) (v := .ref a5) (C := RX8) (T := TX8) (N := 9) hx hb hts zi_X10_agreesWithHeard_X8 hown hK hP 3 rfl rfl 6 (by decide) (hN.w (w := .fieldLinkNest RX10 323 "BeatenInstead$Standing" "heardPrince" "[I" "BeatenInstead") 10 rfl rfl) (fun _ h9 => h9) rfl dX10_agreesWithHeard_19 ?_
        refine lv_iload hx hb dX10_agreesWithHeard_22 (lv_at hl 0 rfl) ?_
        refine vp_callSi (z_runS (As := [.ref a5, .int (nI i)]) (rest := []) hx hb hml hown hts hK hN hl.1 (c_X10_at_n l D cI cB cP a5 6 qp i (by first | assumption | omega) (by omega)) gX10_agreesWithHeard_X10_at rfl zd_X10_at rfl (Nat.le_of_ble_eq_true rfl) (Nat.le_of_ble_eq_true rfl) (va_P.sub (ws' := [(a5, .inl (cI, 6, .inl (fun q_ => nI (qp q_))))]) hP [4] rfl) rfl (Nat.le_of_ble_eq_true rfl) dX10_agreesWithHeard_24 ⟨Nat.zero_le _, Nat.zero_le _⟩) (fun r hr => ?_)
        subst hr
        refine lv_iload_n hx hb dX10_agreesWithHeard_27 rfl (lv_at hl 2 rfl) ?_
        refine lv_icmp_ne (tgt := 84) hx hb dX10_agreesWithHeard_28 (by decide) (fun c_2 => ?_) (fun c_2 => ?_)
        · skip
          have c_2 : ¬ (qp i = pp) := (not_congr (nI_eq (a := qp i) (b := pp) (by omega) (by omega))).mp c_2
          refine lv_iinc (v := nI (i + 1)) (lv' := [(4, .int (nI (i + 1))), (0, .ref x), (1, .int (nI pp)), (2, .ref w0), (3, .int (nI f))]) hx hb dX10_agreesWithHeard_84 hl (k := 0) rfl (nI_add (i) 1) (by decide) rfl (fun ls hl => ?_)
          refine lv_goto (tgt := 3) hx hb dX10_agreesWithHeard_87 (by decide) ?_
          exact ih_3 (i + 1) (by omega) (by rw [zAg, hg, if_neg c_2]; rfl) (by omega) ls hl
        · skip
          have c_2 : qp i = pp := (nI_eq (a := qp i) (b := pp) (by omega) (by omega)).mp c_2
          refine lv_aload_n hx hb dX10_agreesWithHeard_31 rfl (lv_at hl 1 rfl) ?_
          refine va_get (D := D) (ci := 10) (v := .ref x_tx) (C := RX10) (T := TX10) (N := 11) hx hb hts zi_X10_agreesWithHeard_X10 hown hK hP 0 rfl rfl 1 (by decide) (hts (.fieldLink RX10 19 "BeatenInstead" "text" "LBeatenInstead$Text;") (List.mem_of_getElem? (i := 2) rfl)) (fun _ h9 => h9) rfl dX10_agreesWithHeard_32 ?_
          refine lv_aload_n hx hb dX10_agreesWithHeard_35 rfl (lv_at hl 3 rfl) ?_
          refine lv_iload_n hx hb dX10_agreesWithHeard_36 rfl (lv_at hl 4 rfl) ?_
          refine lv_aload_n hx hb dX10_agreesWithHeard_37 rfl (lv_at hl 1 rfl) ?_
          refine va_get (D := D) (ci := 10) (v := .ref x_nw) (C := RX10) (T := TX10) (N := 11) hx hb hts zi_X10_agreesWithHeard_X10 hown hK hP 0 rfl rfl 3 (by decide) (hts (.fieldLink RX10 32 "BeatenInstead" "now" "LBeatenInstead$Standing;") (List.mem_of_getElem? (i := 1) rfl)) (fun _ h9 => h9) rfl dX10_agreesWithHeard_38 ?_
          refine va_getN (D := D) (ci := 8) (v := .ref a6) (C := RX8) (T := TX8) (N := 9) hx hb hts zi_X10_agreesWithHeard_X8 hown hK hP 3 rfl rfl 7 (by decide) (hN.w (w := .fieldLinkNest RX10 326 "BeatenInstead$Standing" "heardLesson" "[I" "BeatenInstead") 11 rfl rfl) (fun _ h9 => h9) rfl dX10_agreesWithHeard_41 ?_
          refine lv_iload hx hb dX10_agreesWithHeard_44 (lv_at hl 0 rfl) ?_
          refine vp_callSi (z_runS (As := [.ref a6, .int (nI i)]) (rest := [.int (nI f), .ref w0, .ref x_tx]) hx hb hml hown hts hK hN hl.1 (c_X10_at_n l D cI cB cP a6 6 ql i (by first | assumption | omega) (by omega)) gX10_agreesWithHeard_X10_at rfl zd_X10_at rfl (Nat.le_of_ble_eq_true rfl) (Nat.le_of_ble_eq_true rfl) (va_P.sub (ws' := [(a6, .inl (cI, 6, .inl (fun q_ => nI (ql q_))))]) hP [5] rfl) rfl (Nat.le_of_ble_eq_true rfl) dX10_agreesWithHeard_46 ⟨Nat.zero_le _, Nat.zero_le _⟩) (fun r hr => ?_)
          subst hr
          refine vp_callSi (z_runVN (b := x_tx) (As := [.ref w0, .int (nI f), .int (nI (ql i))]) (rest := []) hx hb hml hown hts hK hN hl.1 (c_X9_tenthsFor l D cI cB cP x_tx t1 t2 lessons limit hard w0 k0 wit f (ql i) (hql i) (hkd5) (hw) (hf) (hha _)) gX10_agreesWithHeard_X9_tenthsFor_n164 rfl 49 rfl (List.mem_of_getElem? (i := 8) rfl) (List.mem_of_getElem? (i := 7) rfl) (List.mem_of_getElem? (i := 9) rfl) zd_X9_tenthsFor rfl (Nat.le_of_ble_eq_true rfl) (Nat.le_of_ble_eq_true rfl) (va_P.sub (ws' := [(x_tx, .inr (9, [.ref t1, .ref t2, .int (nI lessons), .int (nI limit)])), (t1, .inl (cI, 5, .inl (fun q_ => nI (hard q_)))), (w0, .inr (zKi k0, [.int (nI wit)]))]) hP [1, 2, 7] rfl) (va_recv hK hP (ci := 9) (q0 := 1) rfl rfl) rfl (Nat.le_of_ble_eq_true rfl) dX10_agreesWithHeard_49 ⟨Nat.zero_le _, Nat.zero_le _⟩) (fun r hr => ?_)
          subst hr
          refine lv_istore (lv' := [(5, .int (nI (zTen wit k0 f (hard (ql i))))), (4, .int (nI i)), (0, .ref x), (1, .int (nI pp)), (2, .ref w0), (3, .int (nI f))]) hx hb dX10_agreesWithHeard_52 hl (by decide) rfl (fun ls hl => ?_)
          refine lv_iload hx hb dX10_agreesWithHeard_54 (lv_at hl 0 rfl) ?_
          refine lv_aload_n hx hb dX10_agreesWithHeard_56 rfl (lv_at hl 2 rfl) ?_
          refine va_get (D := D) (ci := 10) (v := .ref x_nw) (C := RX10) (T := TX10) (N := 11) hx hb hts zi_X10_agreesWithHeard_X10 hown hK hP 0 rfl rfl 3 (by decide) (hts (.fieldLink RX10 32 "BeatenInstead" "now" "LBeatenInstead$Standing;") (List.mem_of_getElem? (i := 1) rfl)) (fun _ h9 => h9) rfl dX10_agreesWithHeard_57 ?_
          refine va_getN (D := D) (ci := 8) (v := .ref a7) (C := RX8) (T := TX8) (N := 9) hx hb hts zi_X10_agreesWithHeard_X8 hown hK hP 3 rfl rfl 8 (by decide) (hN.w (w := .fieldLinkNest RX10 329 "BeatenInstead$Standing" "heardLearnt" "[I" "BeatenInstead") 12 rfl rfl) (fun _ h9 => h9) rfl dX10_agreesWithHeard_60 ?_
          refine lv_iload hx hb dX10_agreesWithHeard_63 (lv_at hl 1 rfl) ?_
          refine vp_callSi (z_runS (As := [.ref a7, .int (nI i)]) (rest := [.int (nI (zTen wit k0 f (hard (ql i))))]) hx hb hml hown hts hK hN hl.1 (c_X10_at_n l D cI cB cP a7 6 qr i (by first | assumption | omega) (by omega)) gX10_agreesWithHeard_X10_at rfl zd_X10_at rfl (Nat.le_of_ble_eq_true rfl) (Nat.le_of_ble_eq_true rfl) (va_P.sub (ws' := [(a7, .inl (cI, 6, .inl (fun q_ => nI (qr q_))))]) hP [6] rfl) rfl (Nat.le_of_ble_eq_true rfl) dX10_agreesWithHeard_65 ⟨Nat.zero_le _, Nat.zero_le _⟩) (fun r hr => ?_)
          subst hr
          refine lv_if_eq (tgt := 75) hx hb dX10_agreesWithHeard_68 (by decide) (fun c_3 => ?_) (fun c_3 => ?_)
          · skip
            have c_3 : qr i = 0 := (nI_eq (a := qr i) (b := 0) (by omega) (by omega)).mp c_3
            refine lv_iconst (v := 0) hx hb dX10_agreesWithHeard_75 (by decide) ?_
            refine vp_callSi (z_runS (As := [.int (nI (zTen wit k0 f (hard (ql i)))), .int 0]) (rest := []) hx hb hml hown hts hK hN hl.1 (c_X10_canBe l D cI cB cP (zTen wit k0 f (hard (ql i))) 0 (by have := @zTen_le wit k0 f (hard (ql i)); omega) (by omega)) gX10_agreesWithHeard_X10_canBe rfl zd_X10_canBe rfl (Nat.le_of_ble_eq_true rfl) (Nat.le_of_ble_eq_true rfl) z_p0 rfl (Nat.le_of_ble_eq_true rfl) dX10_agreesWithHeard_76 ⟨Nat.zero_le _, Nat.zero_le _⟩) (fun r hr => ?_)
            rcases hr with ⟨rfl, c_4⟩ | ⟨rfl, c_4⟩
            · skip
              refine lv_if_ne (tgt := 84) hx hb dX10_agreesWithHeard_79 (by decide) (fun _ => ?_) (fun c => absurd c (by decide))
              refine lv_iinc (v := nI (i + 1)) (lv' := [(4, .int (nI (i + 1))), (5, .int (nI (zTen wit k0 f (hard (ql i))))), (0, .ref x), (1, .int (nI pp)), (2, .ref w0), (3, .int (nI f))]) hx hb dX10_agreesWithHeard_84 hl (k := 1) rfl (nI_add (i) 1) (by decide) rfl (fun ls hl => ?_)
              refine lv_goto (tgt := 3) hx hb dX10_agreesWithHeard_87 (by decide) ?_
              exact ih_3 (i + 1) (by omega) (by rw [zAg, hg, if_pos c_2, zCanB_iff.mpr (by unfold zCan; omega)]; rfl) (by omega) ls (lv_sub hl [0, 2, 3, 4, 5] rfl)
            · skip
              refine lv_if_ne (tgt := 84) hx hb dX10_agreesWithHeard_79 (by decide) (fun c => absurd c (by decide)) (fun _ => ?_)
              refine lv_iconst (v := 0) hx hb dX10_agreesWithHeard_82 (by decide) ?_
              exact hret _ _ _ dX10_agreesWithHeard_83 rfl (zB.f (by rw [zAg_false (n := i + 1) (by omega) (by rw [zAg, hg, if_pos c_2]; simp only [Bool.true_and]; exact Bool.eq_false_iff.mpr (fun h => (by have h2 := zCanB_iff.mp h; unfold zCan at h2; omega)))]; decide))
          · skip
            have c_3 : ¬ (qr i = 0) := (not_congr (nI_eq (a := qr i) (b := 0) (by omega) (by omega))).mp c_3
            refine lv_iconst (v := 1) hx hb dX10_agreesWithHeard_71 (by decide) ?_
            refine lv_goto (tgt := 76) hx hb dX10_agreesWithHeard_72 (by decide) ?_
            refine vp_callSi (z_runS (As := [.int (nI (zTen wit k0 f (hard (ql i)))), .int 1]) (rest := []) hx hb hml hown hts hK hN hl.1 (c_X10_canBe l D cI cB cP (zTen wit k0 f (hard (ql i))) 1 (by have := @zTen_le wit k0 f (hard (ql i)); omega) (by omega)) gX10_agreesWithHeard_X10_canBe rfl zd_X10_canBe rfl (Nat.le_of_ble_eq_true rfl) (Nat.le_of_ble_eq_true rfl) z_p0 rfl (Nat.le_of_ble_eq_true rfl) dX10_agreesWithHeard_76 ⟨Nat.zero_le _, Nat.zero_le _⟩) (fun r hr => ?_)
            rcases hr with ⟨rfl, c_4⟩ | ⟨rfl, c_4⟩
            · skip
              refine lv_if_ne (tgt := 84) hx hb dX10_agreesWithHeard_79 (by decide) (fun _ => ?_) (fun c => absurd c (by decide))
              refine lv_iinc (v := nI (i + 1)) (lv' := [(4, .int (nI (i + 1))), (5, .int (nI (zTen wit k0 f (hard (ql i))))), (0, .ref x), (1, .int (nI pp)), (2, .ref w0), (3, .int (nI f))]) hx hb dX10_agreesWithHeard_84 hl (k := 1) rfl (nI_add (i) 1) (by decide) rfl (fun ls hl => ?_)
              refine lv_goto (tgt := 3) hx hb dX10_agreesWithHeard_87 (by decide) ?_
              exact ih_3 (i + 1) (by omega) (by rw [zAg, hg, if_pos c_2, zCanB_iff.mpr (by unfold zCan; omega)]; rfl) (by omega) ls (lv_sub hl [0, 2, 3, 4, 5] rfl)
            · skip
              refine lv_if_ne (tgt := 84) hx hb dX10_agreesWithHeard_79 (by decide) (fun c => absurd c (by decide)) (fun _ => ?_)
              refine lv_iconst (v := 0) hx hb dX10_agreesWithHeard_82 (by decide) ?_
              exact hret _ _ _ dX10_agreesWithHeard_83 rfl (zB.f (by rw [zAg_false (n := i + 1) (by omega) (by rw [zAg, hg, if_pos c_2]; simp only [Bool.true_and]; exact Bool.eq_false_iff.mpr (fun h => (by have h2 := zCanB_iff.mp h; unfold zCan at h2; omega)))]; decide))
  exact loop_3 _ 0 (Nat.zero_le _) (rfl) (Nat.lt_succ_self _) ls hl

abbrev rm_X10_fondness : Room := { frames := 4, cells := 0, slots := 0, locals := 91 }
set_option maxHeartbeats 4000000 in
set_option maxRecDepth 100000 in
theorem c_X10_fondness (l : Launch) (D : va_G) (cI cB cP : ClassId) (x : Nat) (x_pg : Nat) (x_tx : Nat) (x_pr : Nat) (x_nw : Nat) (x_kp : Nat) (x_tr : Nat) (x_or : Nat) (x_bl : Nat) (hI : Nat) (tR : Nat) (tO : Nat) (np : Nat) (a1 : Nat) (a2 : Nat) (a3 : Nat) (a4 : Nat) (nh : Nat) (a5 : Nat) (a6 : Nat) (a7 : Nat) (t1 : Nat) (t2 : Nat) (lessons : Nat) (limit : Nat) (hard : Nat → Nat) (qp : Nat → Nat) (ql : Nat → Nat) (qr : Nat → Nat) (pool : va_W) (pr : Nat → Option Nat) (kd : Nat → Nat) (wt : Nat → Nat) (num : Int32) (hnp : np ≤ 3) (hpool : zPool pool pr kd wt np) (hkd : ∀ i, kd i < 5) (hwt : ∀ i, wt i ≤ 9) (hha : ∀ i, hard i ≤ 9) (hnh : nh ≤ 6) (hql : ∀ i, ql i < 5) (hqr : ∀ i, qr i < 2) (hqp : ∀ i, qp i < 3)  : zPi l D cI cB cP yX10_fondness wsX10_fondness rm_X10_fondness [.ref x, .int num] ([(x, .inr (10, [.ref x_pg, .ref x_tx, .ref x_pr, .ref x_nw, .ref x_kp, .ref x_tr, .ref x_or, .ref x_bl, .int (nI hI), .int (nI tR), .int (nI tO)])), (x_nw, .inr (8, [.int (nI np), .ref a1, .ref a2, .ref a3, .ref a4, .int (nI nh), .ref a5, .ref a6, .ref a7])), (x_pr, .inl (cP, 3, .inr (.inr (.inr (.inr (pr)))))), (x_tx, .inr (9, [.ref t1, .ref t2, .int (nI lessons), .int (nI limit)])), (t1, .inl (cI, 5, .inl (fun q_ => nI (hard q_)))), (a5, .inl (cI, 6, .inl (fun q_ => nI (qp q_)))), (a6, .inl (cI, 6, .inl (fun q_ => nI (ql q_)))), (a7, .inl (cI, 6, .inl (fun q_ => nI (qr q_))))] ++ pool) (fun r => r = zFondness qp ql qr hard kd wt np nh num) := by
  refine zPi_of (cc := cX10_fondness) (maxL := 5) (by decide) rfl (Nat.le_of_ble_eq_true rfl) ?_
  intro p e s m args below meth c ls Q hx hb hml hts hown hP hK hN hl hret
  have hown : s.vm.findClass RX10 = some m.cls := hown
  have hl : lv_has ls 5 [(0, .ref x), (1, .int num)] := hl
  refine lv_aload_n hx hb dX10_fondness_0 rfl (lv_at hl 0 rfl) ?_
  refine lv_iload_n hx hb dX10_fondness_1 rfl (lv_at hl 1 rfl) ?_
  refine va_csq (z_runV (b := x) (As := [.int num]) (rest := []) hx hb hml hown hts hK hN hl.1 (c_X10_princeOf l D cI cB cP x x_pg x_tx x_pr x_nw x_kp x_tr x_or x_bl hI tR tO np a1 a2 a3 a4 nh a5 a6 a7 pr num (by first | assumption | omega)) gX10_fondness_X10_princeOf rfl zd_X10_princeOf rfl (Nat.le_of_ble_eq_true rfl) (Nat.le_of_ble_eq_true rfl) (va_P.sub (ws' := [(x, .inr (10, [.ref x_pg, .ref x_tx, .ref x_pr, .ref x_nw, .ref x_kp, .ref x_tr, .ref x_or, .ref x_bl, .int (nI hI), .int (nI tR), .int (nI tO)])), (x_nw, .inr (8, [.int (nI np), .ref a1, .ref a2, .ref a3, .ref a4, .int (nI nh), .ref a5, .ref a6, .ref a7])), (x_pr, .inl (cP, 3, .inr (.inr (.inr (.inr (pr))))))]) (z_pf hP) [0, 1, 2] rfl) (va_recv hK hP (ci := 10) (q0 := 0) rfl rfl) rfl (Nat.le_of_ble_eq_true rfl) dX10_fondness_2 ⟨Nat.zero_le _, Nat.zero_le _⟩) (fun r hr => ?_)
  rcases z_po hr hpool hnp with ⟨rfl, hpo⟩ | ⟨pn, a, hp, epo, rfl, hmem⟩
  · skip
    refine lv_astore_nN (lv' := [(2, .null), (0, .ref x), (1, .int num)]) hx hb dX10_fondness_5 rfl hl (by decide) rfl (fun ls hl => ?_)
    refine lv_aload_nN hx hb dX10_fondness_6 rfl (lv_at hl 0 rfl) ?_
    refine lv_ifnonnullN hx hb dX10_fondness_7 ?_
    refine lv_bipush (v := (-101)) hx hb dX10_fondness_10 (by decide) ?_
    exact hret _ _ _ dX10_fondness_12 (by rw [zFondness, if_pos hpo])
  · subst epo
    refine lv_astore_n (lv' := [(2, .ref a), (0, .ref x), (1, .int (nI pn))]) hx hb dX10_fondness_5 rfl hl (by decide) rfl (fun ls hl => ?_)
    refine lv_aload_n hx hb dX10_fondness_6 rfl (lv_at hl 0 rfl) ?_
    refine lv_ifnonnull (tgt := 13) hx hb dX10_fondness_7 (by decide) ?_
    refine lv_iconst (v := 0) hx hb dX10_fondness_13 (by decide) ?_
    refine lv_istore_n (lv' := [(3, .int 0), (2, .ref a), (0, .ref x), (1, .int (nI pn))]) hx hb dX10_fondness_14 rfl hl (by decide) rfl (fun ls hl => ?_)
    refine lv_iconst (v := 0) hx hb dX10_fondness_15 (by decide) ?_
    refine lv_istore (lv' := [(4, .int 0), (3, .int 0), (2, .ref a), (0, .ref x), (1, .int (nI pn))]) hx hb dX10_fondness_16 hl (by decide) rfl (fun ls hl => ?_)
    have loop_18 : ∀ (fu_18 : Nat) (y i : Nat), (i ≤ 10) → (y = zFns qp ql qr hard (wt pn) (kd pn) pn nh i) → 10 - i < fu_18 → ∀ (ls : Array Slot), lv_has ls 5 [(4, .int (nI i)), (3, .int (nI y)), (2, .ref a), (0, .ref x), (1, .int (nI pn))] → W p l e rm_X10_fondness s m args below meth c s.heap [] 0 0 Q (F0 m 18 ls []) := by
      intro fu_18
      induction fu_18 with
      | zero => intro y i hi hx1 hn_18; exact absurd hn_18 (by omega)
      | succ fu_18 ih_18 =>
        intro y i hi hx1 hn_18 ls hl
        have hx2 : y < 2 ^ 10 := by rw [hx1]; exact Nat.lt_of_lt_of_le (zFns_lt i) (Nat.pow_le_pow_right (by omega) (by omega))
        have hp2 : 2 ^ i < 2 ^ 31 := Nat.pow_lt_pow_right (by omega) (by omega)
        refine lv_iload hx hb dX10_fondness_18 (lv_at hl 0 rfl) ?_
        refine lv_bipush (v := (9)) hx hb dX10_fondness_20 (by decide) ?_
        refine lv_icmp_gt (tgt := 49) hx hb dX10_fondness_22 (by decide) (fun c_1 => ?_) (fun c_1 => ?_)
        · skip
          have c_1 : 9 < i := (nI_ltI (a := 9) (b := i) (by omega) (by omega)).mp c_1
          refine lv_iload_n hx hb dX10_fondness_49 rfl (lv_at hl 1 rfl) ?_
          exact hret _ _ _ dX10_fondness_50 (by rw [zFondness, if_neg (z_pn hp hnp), nI_clamp (by omega), hx1, show i = 10 by omega])
        · skip
          have c_1 : ¬ (9 < i) := (not_congr (nI_ltI (a := 9) (b := i) (by omega) (by omega))).mp c_1
          refine lv_aload_n hx hb dX10_fondness_25 rfl (lv_at hl 3 rfl) ?_
          refine lv_iload_n hx hb dX10_fondness_26 rfl (lv_at hl 4 rfl) ?_
          refine lv_aload_n hx hb dX10_fondness_27 rfl (lv_at hl 2 rfl) ?_
          refine lv_iload hx hb dX10_fondness_28 (lv_at hl 0 rfl) ?_
          refine vp_callSi (z_runV (b := x) (As := [.int (nI pn), .ref a, .int (nI i)]) (rest := []) hx hb hml hown hts hK hN hl.1 (c_X10_agreesWithHeard l D cI cB cP x x_pg x_tx x_pr x_nw x_kp x_tr x_or x_bl hI tR tO np a1 a2 a3 a4 nh a5 a6 a7 t1 t2 lessons limit hard qp ql qr pn a (kd pn) (wt pn) i (hkd pn) (hwt pn) (by omega) (hha) (by first | assumption | omega) (by first | assumption | omega) (by first | assumption | omega) (by omega) (hqp)) gX10_fondness_X10_agreesWithHeard rfl zd_X10_agreesWithHeard rfl (Nat.le_of_ble_eq_true rfl) (Nat.le_of_ble_eq_true rfl) (va_P.sub (ws' := [(x, .inr (10, [.ref x_pg, .ref x_tx, .ref x_pr, .ref x_nw, .ref x_kp, .ref x_tr, .ref x_or, .ref x_bl, .int (nI hI), .int (nI tR), .int (nI tO)])), (x_tx, .inr (9, [.ref t1, .ref t2, .int (nI lessons), .int (nI limit)])), (t1, .inl (cI, 5, .inl (fun q_ => nI (hard q_)))), (x_nw, .inr (8, [.int (nI np), .ref a1, .ref a2, .ref a3, .ref a4, .int (nI nh), .ref a5, .ref a6, .ref a7])), (a5, .inl (cI, 6, .inl (fun q_ => nI (qp q_)))), (a6, .inl (cI, 6, .inl (fun q_ => nI (ql q_)))), (a7, .inl (cI, 6, .inl (fun q_ => nI (qr q_)))), (a, .inr (zKi (kd pn), [.int (nI (wt pn))]))]) (va_P.app (z_pf hP) (z_p1 (z_pp hP) hmem)) [0, 3, 4, 1, 5, 6, 7, 8] rfl) (va_recv hK hP (ci := 10) (q0 := 0) rfl rfl) rfl (Nat.le_of_ble_eq_true rfl) dX10_fondness_30 ⟨Nat.zero_le _, Nat.zero_le _⟩) (fun r hr => ?_)
          rcases hr with ⟨rfl, c_2⟩ | ⟨rfl, c_2⟩
          · skip
            refine lv_if_eq (tgt := 43) hx hb dX10_fondness_33 (by decide) (fun c => absurd c (by decide)) (fun _ => ?_)
            refine lv_iload_n hx hb dX10_fondness_36 rfl (lv_at hl 1 rfl) ?_
            refine lv_iconst (v := 1) hx hb dX10_fondness_37 (by decide) ?_
            refine lv_iload hx hb dX10_fondness_38 (lv_at hl 0 rfl) ?_
            refine lv_ishl hx hb dX10_fondness_40 ?_
            refine z_top (show (1 <<< ((nI i) &&& 31)) = nI (2 ^ i) from z_or10 i (by omega)) ?_
            refine lv_ior hx hb dX10_fondness_41 ?_
            refine z_top (show ((nI y) ||| (nI (2 ^ i))) = nI (y ||| 2 ^ i) from z_lor (by omega) hp2) ?_
            refine lv_istore_n (lv' := [(3, .int (nI (y ||| 2 ^ i))), (4, .int (nI i)), (2, .ref a), (0, .ref x), (1, .int (nI pn))]) hx hb dX10_fondness_42 rfl hl (by decide) rfl (fun ls hl => ?_)
            refine lv_iinc (v := nI (i + 1)) (lv' := [(4, .int (nI (i + 1))), (3, .int (nI (y ||| 2 ^ i))), (2, .ref a), (0, .ref x), (1, .int (nI pn))]) hx hb dX10_fondness_43 hl (k := 1) rfl (nI_add (i) 1) (by decide) rfl (fun ls hl => ?_)
            refine lv_goto (tgt := 18) hx hb dX10_fondness_46 (by decide) ?_
            exact ih_18 (y ||| 2 ^ i) (i + 1) (by omega) (by rw [zFns, if_pos c_2, hx1]) (by omega) ls hl
          · skip
            refine lv_if_eq (tgt := 43) hx hb dX10_fondness_33 (by decide) (fun _ => ?_) (fun c => absurd c (by decide))
            refine lv_iinc (v := nI (i + 1)) (lv' := [(4, .int (nI (i + 1))), (3, .int (nI y)), (2, .ref a), (0, .ref x), (1, .int (nI pn))]) hx hb dX10_fondness_43 hl (k := 0) rfl (nI_add (i) 1) (by decide) rfl (fun ls hl => ?_)
            refine lv_goto (tgt := 18) hx hb dX10_fondness_46 (by decide) ?_
            exact ih_18 y (i + 1) (by omega) (by rw [zFns, if_neg c_2, hx1]) (by omega) ls hl
    exact loop_18 _ 0 0 (Nat.zero_le _) (rfl) (Nat.lt_succ_self _) ls hl

theorem zi_X10_letter_X10 : ∀ w ∈ wsX100, w ∈ wsX10_letter := fun _ h => List.mem_cons_of_mem _ (List.mem_append_left _ (List.mem_append_right _ (h)))
theorem zi_X10_letter_X5 : ∀ w ∈ wsX50, w ∈ wsX10_letter := fun _ h => List.mem_cons_of_mem _ (List.mem_append_right _ (h))
abbrev rm_X10_letter : Room := { frames := 2, cells := 0, slots := 0, locals := 43 }
set_option maxHeartbeats 4000000 in
set_option maxRecDepth 100000 in
theorem c_X10_letter (l : Launch) (D : va_G) (cI cB cP : ClassId) (x : Nat) (x_pg : Nat) (x_tx : Nat) (x_pr : Nat) (x_nw : Nat) (x_kp : Nat) (x_tr : Nat) (x_or : Nat) (x_bl : Nat) (hI : Nat) (tR : Nat) (tO : Nat) (g1 : Nat) (size : Nat) (codes : Nat → Nat) (code : Int32) (hsz : size ≤ 18)  : zWi (S := Unit) l D cI cB cP yX10_letter wsX10_letter rm_X10_letter [.ref x, .int code] [(x_pg, .inr (5, [.ref g1, .int (nI size)])), (g1, .inl (cI, 18, .inl (fun q_ => nI (codes q_))))] ([(x, .inr (10, [.ref x_pg, .ref x_tx, .ref x_pr, .ref x_nw, .ref x_kp, .ref x_tr, .ref x_or, .ref x_bl, .int (nI hI), .int (nI tR), .int (nI tO)]))]) (fun r u => r = zLetR size code) (fun u => [(x_pg, .inr (5, [.ref g1, .int (nI (zLetS size code))])), (g1, .inl (cI, 18, .inl (fun q_ => nI ((zLetC codes size code) q_))))]) := by
  refine zWi_of (cc := cX10_letter) (maxL := 2) (by decide) rfl (Nat.le_of_ble_eq_true rfl) ?_
  intro p e s m args below meth c ls Q A H locs hx hb hml hts hown hP hD hS hA hRk hRA hK hN hl hret
  have hown : s.vm.findClass RX10 = some m.cls := hown
  have hl : lv_has ls 2 [(0, .ref x), (1, .int code)] := hl
  refine lv_iload_n hx hb dX10_letter_0 rfl (lv_at hl 1 rfl) ?_
  refine lv_bipush (v := (32)) hx hb dX10_letter_1 (by decide) ?_
  refine lv_icmp_lt (tgt := 12) hx hb dX10_letter_3 (by decide) (fun c_1 => ?_) (fun c_1 => ?_)
  · skip
    refine lv_bipush (v := (-102)) hx hb dX10_letter_12 (by decide) ?_
    have eW : ([(x_pg, .inr (5, [.ref g1, .int (nI (zLetS size code))])), (g1, .inl (cI, 18, .inl (fun q_ => nI ((zLetC codes size code) q_))))] : va_W) = [(x_pg, .inr (5, [.ref g1, .int (nI size)])), (g1, .inl (cI, 18, .inl (fun q_ => nI (codes q_))))] := by rw [zLetS, zLetC, if_pos (Or.inl (Or.inl c_1)), if_pos (Or.inl (Or.inl c_1))]
    exact hret _ _ _ (()) _ _ dX10_letter_14 (by rw [zLetR, if_pos (Or.inl c_1)]) (Eq.mpr (congrArg (fun w => va_P D vwCl w H) eW) hP) (Eq.mpr (congrArg (fun w => va_D A w) eW) hD) hS
  · skip
    refine lv_iload_n hx hb dX10_letter_6 rfl (lv_at hl 1 rfl) ?_
    refine lv_bipush (v := (126)) hx hb dX10_letter_7 (by decide) ?_
    refine lv_icmp_le (tgt := 15) hx hb dX10_letter_9 (by decide) (fun c_2 => ?_) (fun c_2 => ?_)
    · skip
      refine lv_aload_n hx hb dX10_letter_15 rfl (lv_at hl 0 rfl) ?_
      refine va_get (D := D) (ci := 10) (v := .ref x_pg) (C := RX10) (T := TX10) (N := 11) hx hb hts zi_X10_letter_X10 hown hK (hRk _ _ hS) 0 rfl rfl 0 (by decide) (hts (.fieldLink RX10 12 "BeatenInstead" "page" "LBeatenInstead$Page;") (List.mem_of_getElem? (i := 1) rfl)) (fun _ h9 => h9) rfl dX10_letter_16 ?_
      refine va_getN (D := D) (ci := 5) (v := .int (nI size)) (C := RX5) (T := TX5) (N := 2) hx hb hts zi_X10_letter_X5 hown hK hP 0 rfl rfl 1 (by decide) (hN.w (w := .fieldLinkNest RX10 67 "BeatenInstead$Page" "size" "I" "BeatenInstead") 1 rfl rfl) (fun _ h9 => h9) rfl dX10_letter_19 ?_
      refine lv_bipush (v := (18)) hx hb dX10_letter_22 (by decide) ?_
      refine lv_icmp_lt (tgt := 30) hx hb dX10_letter_24 (by decide) (fun c_3 => ?_) (fun c_3 => ?_)
      · skip
        have c_3 : size < 18 := (nI_ltI (a := size) (b := 18) (by omega) (by omega)).mp c_3
        obtain ⟨cd, hcd1, hcd2, rfl⟩ := z_code c_1 (Int32.not_lt.mpr c_2)
        refine lv_aload_n hx hb dX10_letter_30 rfl (lv_at hl 0 rfl) ?_
        refine va_get (D := D) (ci := 10) (v := .ref x_pg) (C := RX10) (T := TX10) (N := 11) hx hb hts zi_X10_letter_X10 hown hK (hRk _ _ hS) 0 rfl rfl 0 (by decide) (hts (.fieldLink RX10 12 "BeatenInstead" "page" "LBeatenInstead$Page;") (List.mem_of_getElem? (i := 1) rfl)) (fun _ h9 => h9) rfl dX10_letter_31 ?_
        refine lv_iload_n hx hb dX10_letter_34 rfl (lv_at hl 1 rfl) ?_
        refine z_wv (Fn := fun u => [(x_pg, .inr (5, [.ref g1, .int (nI (size + 1))])), (g1, .inl (cI, 18, .inl (fun q_ => nI ((va_up codes size cd) q_))))]) (z_wrunVN (b := x_pg) (As := [.int (nI cd)]) (rest := []) hx hb hml hown hts hK hN hl.1 (c_X5_add l D cI cB cP x_pg g1 size codes cd (by first | assumption | omega)) gX10_letter_X5_add_n70 rfl 22 rfl (List.mem_of_getElem? (i := 3) rfl) (List.mem_of_getElem? (i := 2) rfl) (List.mem_of_getElem? (i := 4) rfl) zd_X5_add rfl (Nat.le_of_ble_eq_true rfl) (Nat.le_of_ble_eq_true rfl) (hP.sub (ws' := [(x_pg, .inr (5, [.ref g1, .int (nI size)])), (g1, .inl (cI, 18, .inl (fun q_ => nI (codes q_))))]) [0, 1] rfl) (hD.sub (ws' := [(x_pg, .inr (5, [.ref g1, .int (nI size)])), (g1, .inl (cI, 18, .inl (fun q_ => nI (codes q_))))]) [0, 1] rfl rfl) z_p0 (fun _ h => absurd h List.not_mem_nil) (va_recv hK hP (ci := 5) (q0 := 0) rfl rfl) rfl (Nat.le_of_ble_eq_true rfl) dX10_letter_35 ⟨Nat.zero_le _, Nat.zero_le _⟩) hP hD hS hA [0, 1] rfl (fun _ => rfl) (fun _ => rfl) (fun u H locs hr hP hD hS => ?_)
        have hP : va_P D vwCl [(x_pg, .inr (5, [.ref g1, .int (nI (size + 1))])), (g1, .inl (cI, 18, .inl (fun q_ => nI ((va_up codes size cd) q_))))] H := hP
        have hD : va_D A [(x_pg, .inr (5, [.ref g1, .int (nI (size + 1))])), (g1, .inl (cI, 18, .inl (fun q_ => nI ((va_up codes size cd) q_))))] := hD
        refine lv_aload_n hx hb dX10_letter_38 rfl (lv_at hl 0 rfl) ?_
        refine va_get (D := D) (ci := 10) (v := .ref x_pg) (C := RX10) (T := TX10) (N := 11) hx hb hts zi_X10_letter_X10 hown hK (hRk _ _ hS) 0 rfl rfl 0 (by decide) (hts (.fieldLink RX10 12 "BeatenInstead" "page" "LBeatenInstead$Page;") (List.mem_of_getElem? (i := 1) rfl)) (fun _ h9 => h9) rfl dX10_letter_39 ?_
        refine va_getN (D := D) (ci := 5) (v := .int (nI (size + 1))) (C := RX5) (T := TX5) (N := 2) hx hb hts zi_X10_letter_X5 hown hK hP 0 rfl rfl 1 (by decide) (hN.w (w := .fieldLinkNest RX10 67 "BeatenInstead$Page" "size" "I" "BeatenInstead") 1 rfl rfl) (fun _ h9 => h9) rfl dX10_letter_42 ?_
        have eW : ([(x_pg, .inr (5, [.ref g1, .int (nI (zLetS size (nI cd)))])), (g1, .inl (cI, 18, .inl (fun q_ => nI ((zLetC codes size (nI cd)) q_))))] : va_W) = [(x_pg, .inr (5, [.ref g1, .int (nI (size + 1))])), (g1, .inl (cI, 18, .inl (fun q_ => nI ((va_up codes size cd) q_))))] := by rw [zLetS, zLetC, if_neg (fun h => h.elim (fun h => h.elim c_1 (Int32.not_lt.mpr c_2)) (fun h => by omega)), if_neg (fun h => h.elim (fun h => h.elim c_1 (Int32.not_lt.mpr c_2)) (fun h => by omega)), nI_clamp (by omega)]
        exact hret _ _ _ (()) _ _ dX10_letter_45 (by rw [zLetR, if_neg (fun h => h.elim c_1 (Int32.not_lt.mpr c_2)), if_neg (by omega)]) (Eq.mpr (congrArg (fun w => va_P D vwCl w H) eW) hP) (Eq.mpr (congrArg (fun w => va_D A w) eW) hD) hS
      · skip
        have c_3 : ¬ (size < 18) := (not_congr (nI_ltI (a := size) (b := 18) (by omega) (by omega))).mp c_3
        refine lv_bipush (v := (-104)) hx hb dX10_letter_27 (by decide) ?_
        have eW : ([(x_pg, .inr (5, [.ref g1, .int (nI (zLetS size code))])), (g1, .inl (cI, 18, .inl (fun q_ => nI ((zLetC codes size code) q_))))] : va_W) = [(x_pg, .inr (5, [.ref g1, .int (nI size)])), (g1, .inl (cI, 18, .inl (fun q_ => nI (codes q_))))] := by rw [zLetS, zLetC, if_pos (Or.inr (by omega)), if_pos (Or.inr (by omega))]
        exact hret _ _ _ (()) _ _ dX10_letter_29 (by rw [zLetR, if_neg (fun h => h.elim c_1 (Int32.not_lt.mpr c_2)), if_pos (by omega)]) (Eq.mpr (congrArg (fun w => va_P D vwCl w H) eW) hP) (Eq.mpr (congrArg (fun w => va_D A w) eW) hD) hS
    · skip
      refine lv_bipush (v := (-102)) hx hb dX10_letter_12 (by decide) ?_
      have eW : ([(x_pg, .inr (5, [.ref g1, .int (nI (zLetS size code))])), (g1, .inl (cI, 18, .inl (fun q_ => nI ((zLetC codes size code) q_))))] : va_W) = [(x_pg, .inr (5, [.ref g1, .int (nI size)])), (g1, .inl (cI, 18, .inl (fun q_ => nI (codes q_))))] := by rw [zLetS, zLetC, if_pos (Or.inl (Or.inr (Int32.not_le.mp c_2))), if_pos (Or.inl (Or.inr (Int32.not_le.mp c_2)))]
      exact hret _ _ _ (()) _ _ dX10_letter_14 (by rw [zLetR, if_pos (Or.inr (Int32.not_le.mp c_2))]) (Eq.mpr (congrArg (fun w => va_P D vwCl w H) eW) hP) (Eq.mpr (congrArg (fun w => va_D A w) eW) hD) hS

theorem zi_X10_blank_X10 : ∀ w ∈ wsX100, w ∈ wsX10_blank := fun _ h => List.mem_cons_of_mem _ (List.mem_append_left _ (List.mem_append_right _ (h)))
theorem zi_X10_blank_X5 : ∀ w ∈ wsX50, w ∈ wsX10_blank := fun _ h => List.mem_cons_of_mem _ (List.mem_append_right _ (h))
abbrev rm_X10_blank : Room := { frames := 0, cells := 0, slots := 0, locals := 0 }
set_option maxHeartbeats 4000000 in
set_option maxRecDepth 100000 in
theorem c_X10_blank (l : Launch) (D : va_G) (cI cB cP : ClassId) (x : Nat) (x_pg : Nat) (x_tx : Nat) (x_pr : Nat) (x_nw : Nat) (x_kp : Nat) (x_tr : Nat) (x_or : Nat) (x_bl : Nat) (hI : Nat) (tR : Nat) (tO : Nat) (g1 : Nat) (size : Nat)   : zWi (S := Unit) l D cI cB cP yX10_blank wsX10_blank rm_X10_blank [.ref x] [(x_pg, .inr (5, [.ref g1, .int (nI size)]))] ([(x, .inr (10, [.ref x_pg, .ref x_tx, .ref x_pr, .ref x_nw, .ref x_kp, .ref x_tr, .ref x_or, .ref x_bl, .int (nI hI), .int (nI tR), .int (nI tO)]))]) (fun r u => r = nI size) (fun u => [(x_pg, .inr (5, [.ref g1, .int (nI 0)]))]) := by
  refine zWi_of (cc := cX10_blank) (maxL := 2) (by decide) rfl (Nat.le_of_ble_eq_true rfl) ?_
  intro p e s m args below meth c ls Q A H locs hx hb hml hts hown hP hD hS hA hRk hRA hK hN hl hret
  have hown : s.vm.findClass RX10 = some m.cls := hown
  have hl : lv_has ls 2 [(0, .ref x)] := hl
  refine lv_aload_n hx hb dX10_blank_0 rfl (lv_at hl 0 rfl) ?_
  refine va_get (D := D) (ci := 10) (v := .ref x_pg) (C := RX10) (T := TX10) (N := 11) hx hb hts zi_X10_blank_X10 hown hK (hRk _ _ hS) 0 rfl rfl 0 (by decide) (hts (.fieldLink RX10 12 "BeatenInstead" "page" "LBeatenInstead$Page;") (List.mem_of_getElem? (i := 1) rfl)) (fun _ h9 => h9) rfl dX10_blank_1 ?_
  refine va_getN (D := D) (ci := 5) (v := .int (nI size)) (C := RX5) (T := TX5) (N := 2) hx hb hts zi_X10_blank_X5 hown hK hP 0 rfl rfl 1 (by decide) (hN.w (w := .fieldLinkNest RX10 67 "BeatenInstead$Page" "size" "I" "BeatenInstead") 1 rfl rfl) (fun _ h9 => h9) rfl dX10_blank_4 ?_
  refine lv_istore_n (lv' := [(1, .int (nI size)), (0, .ref x)]) hx hb dX10_blank_7 rfl hl (by decide) rfl (fun ls hl => ?_)
  refine lv_aload_n hx hb dX10_blank_8 rfl (lv_at hl 1 rfl) ?_
  refine va_get (D := D) (ci := 10) (v := .ref x_pg) (C := RX10) (T := TX10) (N := 11) hx hb hts zi_X10_blank_X10 hown hK (hRk _ _ hS) 0 rfl rfl 0 (by decide) (hts (.fieldLink RX10 12 "BeatenInstead" "page" "LBeatenInstead$Page;") (List.mem_of_getElem? (i := 1) rfl)) (fun _ h9 => h9) rfl dX10_blank_9 ?_
  refine lv_iconst (v := 0) hx hb dX10_blank_12 (by decide) ?_
  refine va_putN (D := D) (ci := 5) (v := .int 0) (ty := .int) (C := RX5) (T := TX5) (N := 2) hx hb hts zi_X10_blank_X5 tyX5 tyX5_ok nmX5 hown hK hP hD hS 0 rfl rfl 1 (by decide) (hN.w (w := .fieldLinkNest RX10 67 "BeatenInstead$Page" "size" "I" "BeatenInstead") 1 rfl rfl) (fun _ h9 => h9) rfl rfl rfl rfl (Nat.le_of_ble_eq_true rfl) dX10_blank_13 (fun H locs hP hD hS => ?_)
  have hP : va_P D vwCl [(x_pg, .inr (5, [.ref g1, .int 0]))] H := hP
  have hD : va_D A [(x_pg, .inr (5, [.ref g1, .int 0]))] := hD
  refine lv_iload_n hx hb dX10_blank_16 rfl (lv_at hl 0 rfl) ?_
  have eW : ([(x_pg, .inr (5, [.ref g1, .int (nI 0)]))] : va_W) = [(x_pg, .inr (5, [.ref g1, .int 0]))] := rfl
  exact hret _ _ _ (()) _ _ dX10_blank_17 (by first | rfl | omega | simp_all) (Eq.mpr (congrArg (fun w => va_P D vwCl w H) eW) hP) (Eq.mpr (congrArg (fun w => va_D A w) eW) hD) hS

theorem zi_X10_forget_X10 : ∀ w ∈ wsX100, w ∈ wsX10_forget := fun _ h => List.mem_cons_of_mem _ (List.mem_append_left _ (List.mem_append_right _ (h)))
theorem zi_X10_forget_X8 : ∀ w ∈ wsX80, w ∈ wsX10_forget := fun _ h => List.mem_cons_of_mem _ (List.mem_append_right _ (h))
abbrev rm_X10_forget : Room := { frames := 0, cells := 0, slots := 0, locals := 0 }
set_option maxHeartbeats 4000000 in
set_option maxRecDepth 100000 in
theorem c_X10_forget (l : Launch) (D : va_G) (cI cB cP : ClassId) (x : Nat) (x_pg : Nat) (x_tx : Nat) (x_pr : Nat) (x_nw : Nat) (x_kp : Nat) (x_tr : Nat) (x_or : Nat) (x_bl : Nat) (hI : Nat) (tR : Nat) (tO : Nat) (np : Nat) (a1 : Nat) (a2 : Nat) (a3 : Nat) (a4 : Nat) (nh : Nat) (a5 : Nat) (a6 : Nat) (a7 : Nat)   : zWi (S := Unit) l D cI cB cP yX10_forget wsX10_forget rm_X10_forget [.ref x] [(x_nw, .inr (8, [.int (nI np), .ref a1, .ref a2, .ref a3, .ref a4, .int (nI nh), .ref a5, .ref a6, .ref a7]))] ([(x, .inr (10, [.ref x_pg, .ref x_tx, .ref x_pr, .ref x_nw, .ref x_kp, .ref x_tr, .ref x_or, .ref x_bl, .int (nI hI), .int (nI tR), .int (nI tO)]))]) (fun r u => r = nI nh) (fun u => [(x_nw, .inr (8, [.int (nI np), .ref a1, .ref a2, .ref a3, .ref a4, .int (nI 0), .ref a5, .ref a6, .ref a7]))]) := by
  refine zWi_of (cc := cX10_forget) (maxL := 2) (by decide) rfl (Nat.le_of_ble_eq_true rfl) ?_
  intro p e s m args below meth c ls Q A H locs hx hb hml hts hown hP hD hS hA hRk hRA hK hN hl hret
  have hown : s.vm.findClass RX10 = some m.cls := hown
  have hl : lv_has ls 2 [(0, .ref x)] := hl
  refine lv_aload_n hx hb dX10_forget_0 rfl (lv_at hl 0 rfl) ?_
  refine va_get (D := D) (ci := 10) (v := .ref x_nw) (C := RX10) (T := TX10) (N := 11) hx hb hts zi_X10_forget_X10 hown hK (hRk _ _ hS) 0 rfl rfl 3 (by decide) (hts (.fieldLink RX10 32 "BeatenInstead" "now" "LBeatenInstead$Standing;") (List.mem_of_getElem? (i := 1) rfl)) (fun _ h9 => h9) rfl dX10_forget_1 ?_
  refine va_getN (D := D) (ci := 8) (v := .int (nI nh)) (C := RX8) (T := TX8) (N := 9) hx hb hts zi_X10_forget_X8 hown hK hP 0 rfl rfl 5 (by decide) (hN.w (w := .fieldLinkNest RX10 232 "BeatenInstead$Standing" "heard" "I" "BeatenInstead") 9 rfl rfl) (fun _ h9 => h9) rfl dX10_forget_4 ?_
  refine lv_istore_n (lv' := [(1, .int (nI nh)), (0, .ref x)]) hx hb dX10_forget_7 rfl hl (by decide) rfl (fun ls hl => ?_)
  refine lv_aload_n hx hb dX10_forget_8 rfl (lv_at hl 1 rfl) ?_
  refine va_get (D := D) (ci := 10) (v := .ref x_nw) (C := RX10) (T := TX10) (N := 11) hx hb hts zi_X10_forget_X10 hown hK (hRk _ _ hS) 0 rfl rfl 3 (by decide) (hts (.fieldLink RX10 32 "BeatenInstead" "now" "LBeatenInstead$Standing;") (List.mem_of_getElem? (i := 1) rfl)) (fun _ h9 => h9) rfl dX10_forget_9 ?_
  refine lv_iconst (v := 0) hx hb dX10_forget_12 (by decide) ?_
  refine va_putN (D := D) (ci := 8) (v := .int 0) (ty := .int) (C := RX8) (T := TX8) (N := 9) hx hb hts zi_X10_forget_X8 tyX8 tyX8_ok nmX8 hown hK hP hD hS 0 rfl rfl 5 (by decide) (hN.w (w := .fieldLinkNest RX10 232 "BeatenInstead$Standing" "heard" "I" "BeatenInstead") 9 rfl rfl) (fun _ h9 => h9) rfl rfl rfl rfl (Nat.le_of_ble_eq_true rfl) dX10_forget_13 (fun H locs hP hD hS => ?_)
  have hP : va_P D vwCl [(x_nw, .inr (8, [.int (nI np), .ref a1, .ref a2, .ref a3, .ref a4, .int 0, .ref a5, .ref a6, .ref a7]))] H := hP
  have hD : va_D A [(x_nw, .inr (8, [.int (nI np), .ref a1, .ref a2, .ref a3, .ref a4, .int 0, .ref a5, .ref a6, .ref a7]))] := hD
  refine lv_iload_n hx hb dX10_forget_16 rfl (lv_at hl 0 rfl) ?_
  have eW : ([(x_nw, .inr (8, [.int (nI np), .ref a1, .ref a2, .ref a3, .ref a4, .int (nI 0), .ref a5, .ref a6, .ref a7]))] : va_W) = [(x_nw, .inr (8, [.int (nI np), .ref a1, .ref a2, .ref a3, .ref a4, .int 0, .ref a5, .ref a6, .ref a7]))] := rfl
  exact hret _ _ _ (()) _ _ dX10_forget_17 (by first | rfl | omega | simp_all) (Eq.mpr (congrArg (fun w => va_P D vwCl w H) eW) hP) (Eq.mpr (congrArg (fun w => va_D A w) eW) hD) hS
