theorem z_ne {x : Int32} {k : Nat} (h : ¬ x = nI k) (hk : k < 2 ^ 31) : x.toInt ≠ (k : Int) := fun e => h (Int32.toInt_inj.mp (by rw [e, nI_toInt hk]))
theorem z_natlt {x : Int32} {n : Nat} (h : ¬ x < 0) (h2 : x < nI n) (hn : n < 2 ^ 31) : ∃ k : Nat, k < n ∧ x = nI k := by
  obtain ⟨j, hj, rfl⟩ := nI_of h
  exact ⟨j, (nI_ltI hj hn).mp h2, rfl⟩
theorem z_natle {x : Int32} {n : Nat} (h : ¬ x < 0) (h2 : ¬ nI n < x) (hn : n < 2 ^ 31) : ∃ k : Nat, k ≤ n ∧ x = nI k := by
  obtain ⟨j, hj, rfl⟩ := nI_of h
  exact ⟨j, by have := (not_congr (nI_ltI hn hj)).mp h2; omega, rfl⟩
/-- the prince's object of a number -/
def zPO (np : Nat) (pr : Nat → Option Nat) (x : Int32) : Option Nat := if ¬ x < 0 ∧ x < nI np then pr x.toNatClampNeg else none
def zPool (pool : va_W) (pr : Nat → Option Nat) (kd wt : Nat → Nat) (np : Nat) : Prop := ∀ i, i < np → ∃ a : Nat, pr i = some a ∧ (a, .inr (zKi (kd i), [.int (nI (wt i))])) ∈ pool
theorem z_po {np : Nat} {pr : Nat → Option Nat} {x : Int32} {r : Option Nat} {pool : va_W} {kd wt : Nat → Nat} (hr : r = zPO np pr x) (hp : zPool pool pr kd wt np) (hnp : np ≤ 3) :
    (r = none ∧ (x < 0 ∨ ¬ x < nI np)) ∨ ∃ p a : Nat, p < np ∧ x = nI p ∧ r = some a ∧ (a, .inr (zKi (kd p), [.int (nI (wt p))])) ∈ pool := by
  by_cases h : ¬ x < 0 ∧ x < nI np
  · obtain ⟨p, hpn, rfl⟩ := z_natlt h.1 h.2 (by omega)
    obtain ⟨a, h1, h2⟩ := hp p hpn
    rw [zPO, if_pos h, nI_clamp (by omega), h1] at hr
    exact Or.inr ⟨p, a, hpn, rfl, hr, h2⟩
  · rw [zPO, if_neg h] at hr
    refine Or.inl ⟨hr, ?_⟩
    by_cases h1 : x < 0
    · exact Or.inl h1
    · exact Or.inr (fun h2 => h ⟨h1, h2⟩)
theorem z_pn {np p : Nat} (h : p < np) (hnp : np ≤ 3) : ¬ (nI p < 0 ∨ ¬ nI p < nI np) := by
  rintro (h1 | h1)
  · exact nI_pos (by omega) h1
  · exact h1 (nI_lt h (by omega))
theorem z_l5 {i lessons : Nat} (h : i < lessons) (hl : lessons ≤ 5) : ¬ (nI i < 0 ∨ ¬ nI i < nI lessons) := by
  rintro (h1 | h1)
  · exact nI_pos (by omega) h1
  · exact h1 (nI_lt h (by omega))
theorem zi_X10_princeOf_X10 : ∀ w ∈ wsX100, w ∈ wsX10_princeOf := fun _ h => List.mem_cons_of_mem _ (List.mem_append_left _ (List.mem_append_right _ (h)))
theorem zi_X10_princeOf_X8 : ∀ w ∈ wsX80, w ∈ wsX10_princeOf := fun _ h => List.mem_cons_of_mem _ (List.mem_append_right _ (h))
abbrev rm_X10_princeOf : Room := { frames := 0, cells := 0, slots := 0, locals := 0 }
set_option maxHeartbeats 4000000 in
set_option maxRecDepth 100000 in
theorem c_X10_princeOf (l : Launch) (D : va_G) (cI cB cP : ClassId) (x : Nat) (x_pg : Nat) (x_tx : Nat) (x_pr : Nat) (x_nw : Nat) (x_kp : Nat) (x_tr : Nat) (x_or : Nat) (x_bl : Nat) (hI : Nat) (tR : Nat) (tO : Nat) (np : Nat) (a1 : Nat) (a2 : Nat) (a3 : Nat) (a4 : Nat) (nh : Nat) (a5 : Nat) (a6 : Nat) (a7 : Nat) (pr : Nat → Option Nat) (num : Int32) (hnp : np ≤ 3)  : zPq l D cI cB cP yX10_princeOf wsX10_princeOf rm_X10_princeOf [.ref x, .int num] ([(x, .inr (10, [.ref x_pg, .ref x_tx, .ref x_pr, .ref x_nw, .ref x_kp, .ref x_tr, .ref x_or, .ref x_bl, .int (nI hI), .int (nI tR), .int (nI tO)])), (x_nw, .inr (8, [.int (nI np), .ref a1, .ref a2, .ref a3, .ref a4, .int (nI nh), .ref a5, .ref a6, .ref a7])), (x_pr, .inl (cP, 3, .inr (.inr (.inr (.inr (pr))))))]) (fun r => r = zPO np pr num) := by
  refine zPq_of (cc := cX10_princeOf) (maxL := 3) (by decide) rfl (Nat.le_of_ble_eq_true rfl) ?_
  intro p e s m args below meth c ls Q hx hb hml hts hown hP hK hN hl hret
  have hown : s.vm.findClass RX10 = some m.cls := hown
  have hl : lv_has ls 3 [(0, .ref x), (1, .int num)] := hl
  refine lv_iload_n hx hb dX10_princeOf_0 rfl (lv_at hl 1 rfl) ?_
  refine lv_if_lt (tgt := 28) hx hb dX10_princeOf_1 (by decide) (fun c_1 => ?_) (fun c_1 => ?_)
  · skip
    refine lv_iconst (v := 0) hx hb dX10_princeOf_28 (by decide) ?_
    refine lv_istore_n (lv' := [(2, .int 0), (0, .ref x), (1, .int num)]) hx hb dX10_princeOf_29 rfl hl (by decide) rfl (fun ls hl => ?_)
    refine lv_iload_n hx hb dX10_princeOf_30 rfl (lv_at hl 0 rfl) ?_
    refine lv_if_eq (tgt := 43) hx hb dX10_princeOf_31 (by decide) (fun _ => ?_) (fun c => absurd c (by decide))
    refine lv_null hx hb dX10_princeOf_43 ?_
    exact hret _ _ (none) dX10_princeOf_44 (by rw [zPO, if_neg (fun h => h.1 c_1)])
  · skip
    refine lv_iload_n hx hb dX10_princeOf_4 rfl (lv_at hl 1 rfl) ?_
    refine lv_aload_n hx hb dX10_princeOf_5 rfl (lv_at hl 0 rfl) ?_
    refine va_get (D := D) (ci := 10) (v := .ref x_nw) (C := RX10) (T := TX10) (N := 11) hx hb hts zi_X10_princeOf_X10 hown hK hP 0 rfl rfl 3 (by decide) (hts (.fieldLink RX10 32 "BeatenInstead" "now" "LBeatenInstead$Standing;") (List.mem_of_getElem? (i := 1) rfl)) (fun _ h9 => h9) rfl dX10_princeOf_6 ?_
    refine va_getN (D := D) (ci := 8) (v := .int (nI np)) (C := RX8) (T := TX8) (N := 9) hx hb hts zi_X10_princeOf_X8 hown hK hP 1 rfl rfl 0 (by decide) (hN.w (w := .fieldLinkNest RX10 118 "BeatenInstead$Standing" "princes" "I" "BeatenInstead") 8 rfl rfl) (fun _ h9 => h9) rfl dX10_princeOf_9 ?_
    refine lv_icmp_ge (tgt := 28) hx hb dX10_princeOf_12 (by decide) (fun c_2 => ?_) (fun c_2 => ?_)
    · skip
      refine lv_iconst (v := 0) hx hb dX10_princeOf_28 (by decide) ?_
      refine lv_istore_n (lv' := [(2, .int 0), (0, .ref x), (1, .int num)]) hx hb dX10_princeOf_29 rfl hl (by decide) rfl (fun ls hl => ?_)
      refine lv_iload_n hx hb dX10_princeOf_30 rfl (lv_at hl 0 rfl) ?_
      refine lv_if_eq (tgt := 43) hx hb dX10_princeOf_31 (by decide) (fun _ => ?_) (fun c => absurd c (by decide))
      refine lv_null hx hb dX10_princeOf_43 ?_
      exact hret _ _ (none) dX10_princeOf_44 (by rw [zPO, if_neg (fun h => Int32.not_lt.mpr c_2 h.2)])
    · skip
      refine lv_iload_n hx hb dX10_princeOf_15 rfl (lv_at hl 1 rfl) ?_
      refine lv_aload_n hx hb dX10_princeOf_16 rfl (lv_at hl 0 rfl) ?_
      refine va_get (D := D) (ci := 10) (v := .ref x_pr) (C := RX10) (T := TX10) (N := 11) hx hb hts zi_X10_princeOf_X10 hown hK hP 0 rfl rfl 2 (by decide) (hts (.fieldLink RX10 25 "BeatenInstead" "princes" "[LBeatenInstead$Prince;") (List.mem_of_getElem? (i := 2) rfl)) (fun _ h9 => h9) rfl dX10_princeOf_17 ?_
      refine va_alen hx hb hK hP 2 2 rfl rfl (v := 3) rfl dX10_princeOf_20 ?_
      refine lv_icmp_ge (tgt := 28) hx hb dX10_princeOf_21 (by decide) (fun c_3 => ?_) (fun c_3 => ?_)
      · skip
        refine lv_iconst (v := 0) hx hb dX10_princeOf_28 (by decide) ?_
        refine lv_istore_n (lv' := [(2, .int 0), (0, .ref x), (1, .int num)]) hx hb dX10_princeOf_29 rfl hl (by decide) rfl (fun ls hl => ?_)
        refine lv_iload_n hx hb dX10_princeOf_30 rfl (lv_at hl 0 rfl) ?_
        refine lv_if_eq (tgt := 43) hx hb dX10_princeOf_31 (by decide) (fun _ => ?_) (fun c => absurd c (by decide))
        refine lv_null hx hb dX10_princeOf_43 ?_
        exact hret _ _ (none) dX10_princeOf_44 (absurd c_3 (Int32.not_le.mpr (Int32.lt_of_lt_of_le (Int32.not_le.mp c_2) ((nI_leI (a := np) (b := 3) (by omega) (by omega)).mpr hnp))))
      · skip
        refine lv_iconst (v := 1) hx hb dX10_princeOf_24 (by decide) ?_
        refine lv_goto (tgt := 29) hx hb dX10_princeOf_25 (by decide) ?_
        refine lv_istore_n (lv' := [(2, .int 1), (0, .ref x), (1, .int num)]) hx hb dX10_princeOf_29 rfl hl (by decide) rfl (fun ls hl => ?_)
        refine lv_iload_n hx hb dX10_princeOf_30 rfl (lv_at hl 0 rfl) ?_
        refine lv_if_eq (tgt := 43) hx hb dX10_princeOf_31 (by decide) (fun c => absurd c (by decide)) (fun _ => ?_)
        refine lv_aload_n hx hb dX10_princeOf_34 rfl (lv_at hl 1 rfl) ?_
        refine va_get (D := D) (ci := 10) (v := .ref x_pr) (C := RX10) (T := TX10) (N := 11) hx hb hts zi_X10_princeOf_X10 hown hK hP 0 rfl rfl 2 (by decide) (hts (.fieldLink RX10 25 "BeatenInstead" "princes" "[LBeatenInstead$Prince;") (List.mem_of_getElem? (i := 2) rfl)) (fun _ h9 => h9) rfl dX10_princeOf_35 ?_
        refine lv_iload_n hx hb dX10_princeOf_38 rfl (lv_at hl 2 rfl) ?_
        refine va_aldq hx hb hK hP 2 2 rfl rfl (z_in c_1 (Int32.not_le.mpr (Int32.lt_of_lt_of_le (Int32.not_le.mp c_2) ((nI_leI (by omega) (by omega)).mpr hnp))) (by omega)) dX10_princeOf_39 ?_
        refine lv_goto (tgt := 44) hx hb dX10_princeOf_40 (by decide) ?_
        exact hret _ _ ((pr) (num).toNatClampNeg) dX10_princeOf_44 (by rw [zPO, if_pos ⟨c_1, Int32.not_le.mp c_2⟩])
