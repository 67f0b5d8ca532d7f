theorem z_lt1 {n : Nat} {v : Int32} (hn : n ≤ 5) : ¬ nI n - 1 < v ↔ v < nI n := by
  have e1 : (1 : Int32) = nI 1 := rfl
  have e : (nI n - nI 1).toInt = (n : Int) - 1 := by rw [pk_sub_toInt (by omega) (by omega)]; omega
  rw [e1, Int32.lt_iff_toInt_lt, Int32.lt_iff_toInt_lt, e, nI_toInt (by omega)]
  omega
theorem z_w3 {w : Int32} (h : ¬ w < 10 ∧ w < 13) : ∃ b : Nat, b < 3 ∧ w = nI (10 + b) := by
  have e10 : (10 : Int32) = nI 10 := rfl
  have h0 : ¬ w < 0 := fun q => h.1 (Int32.lt_trans q (by decide))
  obtain ⟨j, hj, rfl⟩ := z_natlt (n := 13) h0 h.2 (by omega)
  have h1 := h.1
  rw [e10] at h1
  have := (not_congr (nI_ltI (a := j) (b := 10) (by omega) (by omega))).mp h1
  exact ⟨j - 10, by omega, by congr 1; omega⟩
theorem zAbout_5 {np b : Nat} {kd wt fond boys learnt : Nat → Nat} {n : Int32} (h : ¬ (n < 0 ∨ ¬ n < nI np)) (hb : b < 3) : zAbout np kd wt fond boys learnt n (nI (10 + b)) = nI (fond (n.toNatClampNeg * 3 + b)) := by
  rcases (show b = 0 ∨ b = 1 ∨ b = 2 by omega) with rfl | rfl | rfl <;>
  · rw [zAbout, if_neg h, if_neg (by decide +kernel), if_neg (by decide +kernel), if_neg (by decide +kernel), if_neg (by decide +kernel), if_neg (by decide +kernel), if_pos (by decide +kernel)]
    rfl
theorem z_or0 (x : Int32) : x ||| 0 = x := by
  rw [← Int32.toBitVec_inj, Int32.toBitVec_or]
  exact BitVec.or_zero
def zPopN (b : Nat) : Nat → Nat | 0 => 0 | n + 1 => zPopN b n + b / 2 ^ n % 2
theorem zPopN_5 (b : Nat) : zPopN b 5 = zPop b := by simp [zPopN, zPop]
theorem zPopN_le (b : Nat) : ∀ n, zPopN b n ≤ n := by
  intro n
  induction n with
  | zero => exact Nat.le_refl _
  | succ n ih => rw [zPopN]; omega
theorem z_lt2 {v : Int32} (h : ¬ 2 < v) : v < 3 := by
  have e2 : (2 : Int32).toInt = 2 := rfl
  have e3 : (3 : Int32).toInt = 3 := rfl
  rw [Int32.lt_iff_toInt_lt] at h ⊢; omega
theorem z_lt2' {v : Int32} (h : v < 3) : ¬ 2 < v := by
  have e2 : (2 : Int32).toInt = 2 := rfl
  have e3 : (3 : Int32).toInt = 3 := rfl
  rw [Int32.lt_iff_toInt_lt] at h ⊢; omega
theorem z_w2 {w : Int32} (h : ¬ w < 0 ∧ ¬ 2 < w) (h0 : ¬ w = 0) (h1 : ¬ w = 1) : w = 2 := by
  obtain ⟨k, hk, rfl⟩ := z_natle (n := 2) h.1 h.2 (by omega)
  have e0 : k ≠ 0 := fun q => h0 (by rw [q]; rfl)
  have e1 : k ≠ 1 := fun q => h1 (by rw [q]; rfl)
  rw [show k = 2 by omega]; rfl
theorem zFeels_le {k f : Nat} (hf : f ≤ 9) : zFeels k f ≤ 11 := by
  unfold zFeels
  split
  · split <;> omega
  · split
    · omega
    · split
      · omega
      · split
        · split <;> omega
        · omega
theorem z_cl0 {a b : Nat} (ha : a < 2 ^ 30) (hb : b < 2 ^ 30) (h : nI a - nI b < 0) : 0 = nI (min 10 (a - b)) := by
  have e0 : (0 : Int32) = nI 0 := rfl
  rw [e0] at h
  have := (z_slt ha hb (by omega)).mp h
  rw [show min 10 (a - b) = 0 by omega]; rfl
theorem z_cl1 {a b : Nat} (ha : a < 2 ^ 30) (hb : b < 2 ^ 30) (h : 10 < nI a - nI b) : 10 = nI (min 10 (a - b)) := by
  have e0 : (10 : Int32) = nI 10 := rfl
  rw [e0] at h
  have := (z_sgt ha hb (by omega)).mp h
  rw [show min 10 (a - b) = 10 by omega]; rfl
theorem z_cl2 {a b : Nat} (ha : a < 2 ^ 30) (hb : b < 2 ^ 30) (h : 0 ≤ nI a - nI b) (h2 : nI a - nI b ≤ 10) : nI a - nI b = nI (min 10 (a - b)) := by
  have e0 : (0 : Int32) = nI 0 := rfl
  have e1 : (10 : Int32) = nI 10 := rfl
  rw [e0] at h
  rw [e1] at h2
  have h3 := (z_sle ha hb (by omega)).mp h
  have h4 := (z_sge ha hb (by omega)).mp h2
  rw [pk_sub (by omega)]; congr 1; omega
abbrev rm_X11_within : Room := { frames := 0, cells := 0, slots := 0, locals := 0 }
set_option maxHeartbeats 4000000 in
set_option maxRecDepth 100000 in
theorem c_X11_within (l : Launch) (D : va_G) (cI cB cP : ClassId) (v : Int32) (lo : Int32) (hi : Int32)   : zPi l D cI cB cP yX11_within wsX11_within rm_X11_within [.int v, .int lo, .int hi] ([]) (fun r => zB (¬ v < lo ∧ ¬ hi < v) r) := by
  refine zPz_of (cc := cX11_within) (maxL := 3) (by decide) rfl (Nat.le_of_ble_eq_true rfl) ?_
  intro p e s m args below meth c ls Q hx hb hml hts hown hP hK hN hl hret
  have hown : s.vm.findClass RX11 = some m.cls := hown
  have hl : lv_has ls 3 [(0, .int v), (1, .int lo), (2, .int hi)] := hl
  refine lv_iload_n hx hb dX11_within_0 rfl (lv_at hl 0 rfl) ?_
  refine lv_iload_n hx hb dX11_within_1 rfl (lv_at hl 1 rfl) ?_
  refine lv_icmp_lt (tgt := 14) hx hb dX11_within_2 (by decide) (fun c_1 => ?_) (fun c_1 => ?_)
  · skip
    refine lv_iconst (v := 0) hx hb dX11_within_14 (by decide) ?_
    exact hret _ _ _ dX11_within_15 rfl (zB.f (by first | assumption | omega | (simp; omega) | simp_all))
  · skip
    refine lv_iload_n hx hb dX11_within_5 rfl (lv_at hl 0 rfl) ?_
    refine lv_iload_n hx hb dX11_within_6 rfl (lv_at hl 2 rfl) ?_
    refine lv_icmp_gt (tgt := 14) hx hb dX11_within_7 (by decide) (fun c_2 => ?_) (fun c_2 => ?_)
    · skip
      refine lv_iconst (v := 0) hx hb dX11_within_14 (by decide) ?_
      exact hret _ _ _ dX11_within_15 rfl (zB.f (by first | assumption | omega | (simp; omega) | simp_all))
    · skip
      refine lv_iconst (v := 1) hx hb dX11_within_10 (by decide) ?_
      refine lv_goto (tgt := 15) hx hb dX11_within_11 (by decide) ?_
      exact hret _ _ _ dX11_within_15 rfl (zB.t (by first | assumption | omega | (simp; omega) | simp_all))

abbrev rm_X11_has : Room := { frames := 0, cells := 0, slots := 0, locals := 0 }
set_option maxHeartbeats 4000000 in
set_option maxRecDepth 100000 in
theorem c_X11_has (l : Launch) (D : va_G) (cI cB cP : ClassId) (b : Nat) (k : Nat) (hb1 : b < 2 ^ 31) (hk : k < 31)  : zPi l D cI cB cP yX11_has wsX11_has rm_X11_has [.int (nI b), .int (nI k)] ([]) (fun r => zB (b / 2 ^ k % 2 = 1) r) := by
  refine zPz_of (cc := cX11_has) (maxL := 2) (by decide) rfl (Nat.le_of_ble_eq_true rfl) ?_
  intro p e s m args below meth c ls Q hx hb hml hts hown hP hK hN hl hret
  have hown : s.vm.findClass RX11 = some m.cls := hown
  have hl : lv_has ls 2 [(0, .int (nI b)), (1, .int (nI k))] := hl
  refine lv_iload_n hx hb dX11_has_0 rfl (lv_at hl 0 rfl) ?_
  refine lv_iload_n hx hb dX11_has_1 rfl (lv_at hl 1 rfl) ?_
  refine lv_ishr hx hb dX11_has_2 ?_
  refine z_top (show ((nI b) >>> ((nI k) &&& 31)) = nI (b / 2 ^ k) from z_shr hb1 (by omega)) ?_
  refine lv_iconst (v := 1) hx hb dX11_has_3 (by decide) ?_
  refine lv_iand hx hb dX11_has_4 ?_
  refine z_top (show ((nI (b / 2 ^ k)) &&& 1) = nI (b / 2 ^ k % 2) from z_and1 (Nat.lt_of_le_of_lt (Nat.div_le_self _ _) hb1)) ?_
  refine lv_iconst (v := 1) hx hb dX11_has_5 (by decide) ?_
  refine lv_icmp_ne (tgt := 13) hx hb dX11_has_6 (by decide) (fun c_1 => ?_) (fun c_1 => ?_)
  · skip
    have c_1 : ¬ (b / 2 ^ k % 2 = 1) := (not_congr (nI_eq (a := b / 2 ^ k % 2) (b := 1) (by omega) (by omega))).mp c_1
    refine lv_iconst (v := 0) hx hb dX11_has_13 (by decide) ?_
    exact hret _ _ _ dX11_has_14 rfl (zB.f (by first | assumption | omega | (simp; omega) | simp_all))
  · skip
    have c_1 : b / 2 ^ k % 2 = 1 := (nI_eq (a := b / 2 ^ k % 2) (b := 1) (by omega) (by omega)).mp c_1
    refine lv_iconst (v := 1) hx hb dX11_has_9 (by decide) ?_
    refine lv_goto (tgt := 14) hx hb dX11_has_10 (by decide) ?_
    exact hret _ _ _ dX11_has_14 rfl (zB.t (by first | assumption | omega | (simp; omega) | simp_all))

abbrev rm_X11_size : Room := { frames := 0, cells := 0, slots := 0, locals := 0 }
set_option maxHeartbeats 4000000 in
set_option maxRecDepth 100000 in
theorem c_X11_size (l : Launch) (D : va_G) (cI cB cP : ClassId) (b : Nat) (hb1 : b < 2 ^ 31)  : zPi l D cI cB cP yX11_size wsX11_size rm_X11_size [.int (nI b)] ([]) (fun r => r = nI (zPop b)) := by
  refine zPi_of (cc := cX11_size) (maxL := 3) (by decide) rfl (Nat.le_of_ble_eq_true rfl) ?_
  intro p e s m args below meth c ls Q hx hb hml hts hown hP hK hN hl hret
  have hown : s.vm.findClass RX11 = some m.cls := hown
  have hl : lv_has ls 3 [(0, .int (nI b))] := hl
  refine lv_iconst (v := 0) hx hb dX11_size_0 (by decide) ?_
  refine lv_istore_n (lv' := [(1, .int 0), (0, .int (nI b))]) hx hb dX11_size_1 rfl hl (by decide) rfl (fun ls hl => ?_)
  refine lv_iconst (v := 0) hx hb dX11_size_2 (by decide) ?_
  refine lv_istore_n (lv' := [(2, .int 0), (1, .int 0), (0, .int (nI b))]) hx hb dX11_size_3 rfl hl (by decide) rfl (fun ls hl => ?_)
  have loop_4 : ∀ (fu_4 : Nat) (y i : Nat), (i ≤ 5) → (y = zPopN b i) → 5 - i < fu_4 → ∀ (ls : Array Slot), lv_has ls 3 [(2, .int (nI i)), (1, .int (nI y)), (0, .int (nI b))] → W p l e rm_X11_size s m args below meth c s.heap [] 0 0 Q (F0 m 4 ls []) := by
    intro fu_4
    induction fu_4 with
    | zero => intro y i hi hy hn_4; exact absurd hn_4 (by omega)
    | succ fu_4 ih_4 =>
      intro y i hi hy hn_4 ls hl
      refine lv_iload_n hx hb dX11_size_4 rfl (lv_at hl 0 rfl) ?_
      refine lv_iconst (v := 5) hx hb dX11_size_5 (by decide) ?_
      refine lv_icmp_ge (tgt := 23) hx hb dX11_size_6 (by decide) (fun c_1 => ?_) (fun c_1 => ?_)
      · skip
        have c_1 : 5 ≤ i := (nI_leI (a := 5) (b := i) (by omega) (by omega)).mp c_1
        refine lv_iload_n hx hb dX11_size_23 rfl (lv_at hl 1 rfl) ?_
        exact hret _ _ _ dX11_size_24 (by rw [hy, ← zPopN_5, show i = 5 by omega])
      · skip
        have c_1 : ¬ (5 ≤ i) := (not_congr (nI_leI (a := 5) (b := i) (by omega) (by omega))).mp c_1
        refine lv_iload_n hx hb dX11_size_9 rfl (lv_at hl 1 rfl) ?_
        refine lv_iload_n hx hb dX11_size_10 rfl (lv_at hl 2 rfl) ?_
        refine lv_iload_n hx hb dX11_size_11 rfl (lv_at hl 0 rfl) ?_
        refine lv_ishr hx hb dX11_size_12 ?_
        refine z_top (show ((nI b) >>> ((nI i) &&& 31)) = nI (b / 2 ^ i) from z_shr hb1 (by omega)) ?_
        refine lv_iconst (v := 1) hx hb dX11_size_13 (by decide) ?_
        refine lv_iand hx hb dX11_size_14 ?_
        refine z_top (show ((nI (b / 2 ^ i)) &&& 1) = nI (b / 2 ^ i % 2) from z_and1 (Nat.lt_of_le_of_lt (Nat.div_le_self _ _) hb1)) ?_
        refine lv_iadd hx hb dX11_size_15 ?_
        refine z_top (show ((nI y) + (nI (b / 2 ^ i % 2))) = nI (y + b / 2 ^ i % 2) from nI_add y (b / 2 ^ i % 2)) ?_
        refine lv_istore_n (lv' := [(1, .int (nI (y + b / 2 ^ i % 2))), (2, .int (nI i)), (0, .int (nI b))]) hx hb dX11_size_16 rfl hl (by decide) rfl (fun ls hl => ?_)
        refine lv_iinc (v := nI (i + 1)) (lv' := [(2, .int (nI (i + 1))), (1, .int (nI (y + b / 2 ^ i % 2))), (0, .int (nI b))]) hx hb dX11_size_17 hl (k := 1) rfl (nI_add (i) 1) (by decide) rfl (fun ls hl => ?_)
        refine lv_goto (tgt := 4) hx hb dX11_size_20 (by decide) ?_
        exact ih_4 (y + b / 2 ^ i % 2) (i + 1) (by omega) (by rw [zPopN, hy]) (by omega) ls hl
  exact loop_4 _ 0 0 (Nat.zero_le _) (rfl) (Nat.lt_succ_self _) ls hl

abbrev rm_X11_lowest : Room := { frames := 0, cells := 0, slots := 0, locals := 0 }
set_option maxHeartbeats 4000000 in
set_option maxRecDepth 100000 in
theorem c_X11_lowest (l : Launch) (D : va_G) (cI cB cP : ClassId) (a : Nat) (b : Nat) (w : Int32) (ha : a < 2 ^ 62) (hb1 : b < 2 ^ 40) (hb0 : 0 < b)  : zPl l D cI cB cP yX11_lowest wsX11_lowest rm_X11_lowest [.long (lN a), .long (lN b), .int w] ([]) (fun r => r = lN ((if w = 0 then a else b) / Nat.gcd a b)) := by
  refine zPl_of (cc := cX11_lowest) (maxL := 11) (by decide) rfl (Nat.le_of_ble_eq_true rfl) ?_
  intro p e s m args below meth c ls Q hx hb hml hts hown hP hK hN hl hret
  have hown : s.vm.findClass RX11 = some m.cls := hown
  have hl : lv_has ls 11 [(0, .long (lN a)), (2, .long (lN b)), (4, .int w)] := hl
  refine lv_lload_n hx hb dX11_lowest_0 rfl (lv_at hl 0 rfl) ?_
  refine lv_lstore (lv' := [(5, .long (lN a)), (0, .long (lN a)), (2, .long (lN b)), (4, .int w)]) hx hb dX11_lowest_1 hl (by decide) rfl (fun ls hl => ?_)
  refine lv_lload_n hx hb dX11_lowest_3 rfl (lv_at hl 2 rfl) ?_
  refine lv_lstore (lv' := [(7, .long (lN b)), (5, .long (lN a)), (0, .long (lN a)), (2, .long (lN b)), (4, .int w)]) hx hb dX11_lowest_4 hl (by decide) rfl (fun ls hl => ?_)
  have loop_6 : ∀ (fu_6 : Nat) (y z : Nat), (Nat.gcd y z = Nat.gcd a b) → (y < 2 ^ 62) → (z < 2 ^ 40) → z < fu_6 → ∀ (ls : Array Slot), lv_has ls 11 [(7, .long (lN z)), (5, .long (lN y)), (0, .long (lN a)), (2, .long (lN b)), (4, .int w)] → W p l e rm_X11_lowest s m args below meth c s.heap [] 0 0 Q (F0 m 6 ls []) := by
    intro fu_6
    induction fu_6 with
    | zero => intro y z hE hy hz hn_6; exact absurd hn_6 (by omega)
    | succ fu_6 ih_6 =>
      intro y z hE hy hz hn_6 ls hl
      have hg0 : 0 < Nat.gcd a b := Nat.gcd_pos_of_pos_right _ hb0
      have hg1 : Nat.gcd a b ≤ b := Nat.gcd_le_right _ hb0
      refine lv_lload hx hb dX11_lowest_6 (lv_at hl 0 rfl) ?_
      refine lv_lconst (v := 0) hx hb dX11_lowest_8 (by decide) ?_
      refine W.lcmp hx hb dX11_lowest_9 ?_
      refine lv_if_eq (tgt := 31) hx hb dX11_lowest_10 (by decide) (fun c_1 => ?_) (fun c_1 => ?_)
      · skip
        have c_1 : ((lN z) : Int64) = 0 := (lg_cmp_eq _ _).mp c_1
        have c_1 : z = 0 := (pk_lEQ (a := z) (b := 0) (by omega) (by omega)).mp c_1
        have hyg : y = Nat.gcd a b := by rw [← hE, c_1, Nat.gcd_zero_right]
        refine lv_iload hx hb dX11_lowest_31 (lv_at hl 4 rfl) ?_
        refine lv_if_ne (tgt := 43) hx hb dX11_lowest_33 (by decide) (fun c_2 => ?_) (fun c_2 => ?_)
        · skip
          refine lv_lload_n hx hb dX11_lowest_43 rfl (lv_at hl 3 rfl) ?_
          refine lv_lload hx hb dX11_lowest_44 (lv_at hl 1 rfl) ?_
          refine lv_ldiv hx hb dX11_lowest_46 (z_lne (by omega) (by omega)) ?_
          refine z_topl (show ((lN b) / (lN y)) = lN (b / y) from pk_lDiv (a := b) (b := y) (by omega) (by omega) (by omega)) ?_
          exact hret _ _ _ dX11_lowest_47 (by rw [hyg, if_neg c_2])
        · skip
          refine lv_lload_n hx hb dX11_lowest_36 rfl (lv_at hl 2 rfl) ?_
          refine lv_lload hx hb dX11_lowest_37 (lv_at hl 1 rfl) ?_
          refine lv_ldiv hx hb dX11_lowest_39 (z_lne (by omega) (by omega)) ?_
          refine z_topl (show ((lN a) / (lN y)) = lN (a / y) from pk_lDiv (a := a) (b := y) (by omega) (by omega) (by omega)) ?_
          refine lv_goto (tgt := 47) hx hb dX11_lowest_40 (by decide) ?_
          exact hret _ _ _ dX11_lowest_47 (by rw [hyg, if_pos c_2])
      · skip
        have c_1 : ¬ (((lN z) : Int64) = 0) := (not_congr (lg_cmp_eq _ _)).mp c_1
        have c_1 : ¬ (z = 0) := (not_congr (pk_lEQ (a := z) (b := 0) (by omega) (by omega))).mp c_1
        refine lv_lload hx hb dX11_lowest_13 (lv_at hl 1 rfl) ?_
        refine lv_lload hx hb dX11_lowest_15 (lv_at hl 0 rfl) ?_
        refine lv_lrem hx hb dX11_lowest_17 (z_lne (by omega) (by omega)) ?_
        refine z_topl (show ((lN y) - (lN y) / (lN z) * (lN z)) = lN (y % z) from pk_lRem (a := y) (b := z) (by omega) (by omega) (by omega)) ?_
        refine lv_lstore (lv' := [(9, .long (lN (y % z))), (7, .long (lN z)), (5, .long (lN y)), (0, .long (lN a)), (2, .long (lN b)), (4, .int w)]) hx hb dX11_lowest_18 hl (by decide) rfl (fun ls hl => ?_)
        refine lv_lload hx hb dX11_lowest_20 (lv_at hl 1 rfl) ?_
        refine lv_lstore (lv' := [(5, .long (lN z)), (9, .long (lN (y % z))), (7, .long (lN z)), (0, .long (lN a)), (2, .long (lN b)), (4, .int w)]) hx hb dX11_lowest_22 hl (by decide) rfl (fun ls hl => ?_)
        refine lv_lload hx hb dX11_lowest_24 (lv_at hl 1 rfl) ?_
        refine lv_lstore (lv' := [(7, .long (lN (y % z))), (5, .long (lN z)), (9, .long (lN (y % z))), (0, .long (lN a)), (2, .long (lN b)), (4, .int w)]) hx hb dX11_lowest_26 hl (by decide) rfl (fun ls hl => ?_)
        refine lv_goto (tgt := 6) hx hb dX11_lowest_28 (by decide) ?_
        have hmz := Nat.mod_lt y (show 0 < z by omega)
        exact ih_6 z (y % z) (by rw [← hE, Nat.gcd_comm z, ← Nat.gcd_rec, Nat.gcd_comm]) (by omega) (by omega) (by omega) ls (lv_sub hl [0, 1, 3, 4, 5] rfl)
  exact loop_6 _ a b (rfl) (ha) (hb1) (Nat.lt_succ_self _) ls hl

theorem zi_X11_isFigure_X11 : ∀ w ∈ wsX110, w ∈ wsX11_isFigure := fun _ h => List.mem_cons_of_mem _ (List.mem_append_right _ (h))
abbrev rm_X11_isFigure : Room := { frames := 1, cells := 0, slots := 0, locals := 22 }
set_option maxHeartbeats 4000000 in
set_option maxRecDepth 100000 in
theorem c_X11_isFigure (l : Launch) (D : va_G) (cI cB cP : ClassId) (mo : Nat) (m_hard : Nat) (m_blows : Nat) (m_stripes : Nat) (m_kd : Nat) (m_wt : Nat) (m_boys : Nat) (m_learnt : Nat) (m_fond : Nat) (m_qp : Nat) (m_ql : Nat) (m_qr : Nat) (m_codes : Nat) (m_left : Nat) (m_row : Nat) (m_sv : Nat) (m_k_fond : Nat) (m_k_stripes : Nat) (m_k_learnt : Nat) (m_k_boys : Nat) (m_k_qp : Nat) (m_k_ql : Nat) (m_k_qr : Nat) (wI : Int32) (nM : Int32) (sS : Int32) (sF : Int32) (lM : Int32) (sN : Int64) (iK : Int32) (kS : Int32) (kP : Int32) (kH : Int32) (hh : Int64) (sch : Int32) (asks : Int32) (lessons : Nat) (limit : Nat) (np : Nat) (nh : Nat) (size : Nat) (codes : Nat → Nat) (k : Nat) (lo : Nat) (hi : Nat) (hsz : size ≤ 18) (hco : ∀ i, codes i < 127) (hk : k < 100) (hlo : lo < 10) (hhi : hi < 10)  : zPi l D cI cB cP yX11_isFigure wsX11_isFigure rm_X11_isFigure [.ref mo, .int (nI k), .int (nI lo), .int (nI hi)] ([(mo, .inr (11, [.int sch, .int (nI lessons), .int (nI limit), .ref m_hard, .ref m_blows, .ref m_stripes, .int (nI np), .ref m_kd, .ref m_wt, .ref m_boys, .ref m_learnt, .ref m_fond, .int (nI nh), .ref m_qp, .ref m_ql, .ref m_qr, .int asks, .int (nI size), .ref m_codes, .int wI, .int nM, .int sS, .int sF, .ref m_left, .int lM, .ref m_row, .long sN, .ref m_sv, .int iK, .int kS, .int kP, .int kH, .ref m_k_fond, .ref m_k_stripes, .ref m_k_learnt, .ref m_k_boys, .ref m_k_qp, .ref m_k_ql, .ref m_k_qr, .long hh])), (m_codes, .inl (cB, 18, .inl (fun q_ => nI (codes q_))))]) (fun r => zB (k < size ∧ lo + 48 ≤ codes k ∧ codes k ≤ hi + 48) r) := by
  refine zPz_of (cc := cX11_isFigure) (maxL := 4) (by decide) rfl (Nat.le_of_ble_eq_true rfl) ?_
  intro p e s m args below meth c ls Q hx hb hml hts hown hP hK hN hl hret
  have hown : s.vm.findClass RX11 = some m.cls := hown
  have hl : lv_has ls 4 [(0, .ref mo), (1, .int (nI k)), (2, .int (nI lo)), (3, .int (nI hi))] := hl
  refine lv_iload_n hx hb dX11_isFigure_0 rfl (lv_at hl 1 rfl) ?_
  refine lv_aload_n hx hb dX11_isFigure_1 rfl (lv_at hl 0 rfl) ?_
  refine va_get (D := D) (ci := 11) (v := .int (nI size)) (C := RX11) (T := TX11) (N := 40) hx hb hts zi_X11_isFigure_X11 hown hK hP 0 rfl rfl 17 (by decide) (hts (.fieldLink RX11 81 "BeatenInsteadModel" "pageLength" "I") (List.mem_of_getElem? (i := 1) rfl)) (fun _ h9 => h9) rfl dX11_isFigure_2 ?_
  refine lv_icmp_ge (tgt := 29) hx hb dX11_isFigure_5 (by decide) (fun c_1 => ?_) (fun c_1 => ?_)
  · skip
    have c_1 : size ≤ k := (nI_leI (a := size) (b := k) (by omega) (by omega)).mp c_1
    refine lv_iconst (v := 0) hx hb dX11_isFigure_29 (by decide) ?_
    exact hret _ _ _ dX11_isFigure_30 rfl (zB.f (by first | assumption | omega | (simp; omega) | simp_all))
  · skip
    have c_1 : ¬ (size ≤ k) := (not_congr (nI_leI (a := size) (b := k) (by omega) (by omega))).mp c_1
    refine lv_aload_n hx hb dX11_isFigure_8 rfl (lv_at hl 0 rfl) ?_
    refine va_get (D := D) (ci := 11) (v := .ref m_codes) (C := RX11) (T := TX11) (N := 40) hx hb hts zi_X11_isFigure_X11 hown hK hP 0 rfl rfl 18 (by decide) (hts (.fieldLink RX11 43 "BeatenInsteadModel" "page" "[B") (List.mem_of_getElem? (i := 2) rfl)) (fun _ h9 => h9) rfl dX11_isFigure_9 ?_
    refine lv_iload_n hx hb dX11_isFigure_12 rfl (lv_at hl 1 rfl) ?_
    refine va_bald hx hb hK hP 1 1 rfl rfl (vp_in_nI (by omega) (by omega)) dX11_isFigure_13 ?_
    refine z_top (y := nI (codes k)) (z_ld (f := fun q_ => nI (codes q_)) (a := k) (by omega) rfl) ?_
    have hck := hco k
    have e1 := z_slt (a := codes k) (b := 48) (k := lo) (by omega) (by omega) (by omega)
    have e2 := z_sgt (a := codes k) (b := 48) (k := hi) (by omega) (by omega) (by omega)
    refine lv_bipush (v := (48)) hx hb dX11_isFigure_14 (by decide) ?_
    refine lv_isub hx hb dX11_isFigure_16 ?_
    refine lv_iload_n hx hb dX11_isFigure_17 rfl (lv_at hl 2 rfl) ?_
    refine lv_iload_n hx hb dX11_isFigure_18 rfl (lv_at hl 3 rfl) ?_
    refine vp_callSi (z_runS (As := [.int ((nI (codes k)) - 48), .int (nI lo), .int (nI hi)]) (rest := []) hx hb hml hown hts hK hN hl.1 (c_X11_within l D cI cB cP ((nI (codes k)) - 48) (nI lo) (nI hi)) gX11_isFigure_X11_within rfl zd_X11_within rfl (Nat.le_of_ble_eq_true rfl) (Nat.le_of_ble_eq_true rfl) z_p0 rfl (Nat.le_of_ble_eq_true rfl) dX11_isFigure_19 ⟨Nat.zero_le _, Nat.zero_le _⟩) (fun r hr => ?_)
    rcases hr with ⟨rfl, c_2⟩ | ⟨rfl, c_2⟩
    · skip
      refine lv_if_eq (tgt := 29) hx hb dX11_isFigure_22 (by decide) (fun c => absurd c (by decide)) (fun _ => ?_)
      refine lv_iconst (v := 1) hx hb dX11_isFigure_25 (by decide) ?_
      refine lv_goto (tgt := 30) hx hb dX11_isFigure_26 (by decide) ?_
      exact hret _ _ _ dX11_isFigure_30 rfl (zB.t ⟨by omega, by have := (not_congr e1).mp c_2.1; omega, by have := (not_congr e2).mp c_2.2; omega⟩)
    · skip
      refine lv_if_eq (tgt := 29) hx hb dX11_isFigure_22 (by decide) (fun _ => ?_) (fun c => absurd c (by decide))
      refine lv_iconst (v := 0) hx hb dX11_isFigure_29 (by decide) ?_
      exact hret _ _ _ dX11_isFigure_30 rfl (zB.f (fun h => c_2 ⟨(not_congr e1).mpr (by omega), (not_congr e2).mpr (by omega)⟩))

theorem zi_X11_isSign_X11 : ∀ w ∈ wsX110, w ∈ wsX11_isSign := fun _ h => List.mem_cons_of_mem _ (List.mem_append_right _ (h))
abbrev rm_X11_isSign : Room := { frames := 0, cells := 0, slots := 0, locals := 0 }
set_option maxHeartbeats 4000000 in
set_option maxRecDepth 100000 in
theorem c_X11_isSign (l : Launch) (D : va_G) (cI cB cP : ClassId) (mo : Nat) (m_hard : Nat) (m_blows : Nat) (m_stripes : Nat) (m_kd : Nat) (m_wt : Nat) (m_boys : Nat) (m_learnt : Nat) (m_fond : Nat) (m_qp : Nat) (m_ql : Nat) (m_qr : Nat) (m_codes : Nat) (m_left : Nat) (m_row : Nat) (m_sv : Nat) (m_k_fond : Nat) (m_k_stripes : Nat) (m_k_learnt : Nat) (m_k_boys : Nat) (m_k_qp : Nat) (m_k_ql : Nat) (m_k_qr : Nat) (wI : Int32) (nM : Int32) (sS : Int32) (sF : Int32) (lM : Int32) (sN : Int64) (iK : Int32) (kS : Int32) (kP : Int32) (kH : Int32) (hh : Int64) (sch : Int32) (asks : Int32) (lessons : Nat) (limit : Nat) (np : Nat) (nh : Nat) (size : Nat) (codes : Nat → Nat) (k : Nat) (sg : Nat) (hsz : size ≤ 18) (hco : ∀ i, codes i < 127) (hk : k < 100) (hsg : sg < 127)  : zPi l D cI cB cP yX11_isSign wsX11_isSign rm_X11_isSign [.ref mo, .int (nI k), .int (nI sg)] ([(mo, .inr (11, [.int sch, .int (nI lessons), .int (nI limit), .ref m_hard, .ref m_blows, .ref m_stripes, .int (nI np), .ref m_kd, .ref m_wt, .ref m_boys, .ref m_learnt, .ref m_fond, .int (nI nh), .ref m_qp, .ref m_ql, .ref m_qr, .int asks, .int (nI size), .ref m_codes, .int wI, .int nM, .int sS, .int sF, .ref m_left, .int lM, .ref m_row, .long sN, .ref m_sv, .int iK, .int kS, .int kP, .int kH, .ref m_k_fond, .ref m_k_stripes, .ref m_k_learnt, .ref m_k_boys, .ref m_k_qp, .ref m_k_ql, .ref m_k_qr, .long hh])), (m_codes, .inl (cB, 18, .inl (fun q_ => nI (codes q_))))]) (fun r => zB (k < size ∧ codes k = sg) r) := by
  refine zPz_of (cc := cX11_isSign) (maxL := 3) (by decide) rfl (Nat.le_of_ble_eq_true rfl) ?_
  intro p e s m args below meth c ls Q hx hb hml hts hown hP hK hN hl hret
  have hown : s.vm.findClass RX11 = some m.cls := hown
  have hl : lv_has ls 3 [(0, .ref mo), (1, .int (nI k)), (2, .int (nI sg))] := hl
  refine lv_iload_n hx hb dX11_isSign_0 rfl (lv_at hl 1 rfl) ?_
  refine lv_aload_n hx hb dX11_isSign_1 rfl (lv_at hl 0 rfl) ?_
  refine va_get (D := D) (ci := 11) (v := .int (nI size)) (C := RX11) (T := TX11) (N := 40) hx hb hts zi_X11_isSign_X11 hown hK hP 0 rfl rfl 17 (by decide) (hts (.fieldLink RX11 81 "BeatenInsteadModel" "pageLength" "I") (List.mem_of_getElem? (i := 1) rfl)) (fun _ h9 => h9) rfl dX11_isSign_2 ?_
  refine lv_icmp_ge (tgt := 22) hx hb dX11_isSign_5 (by decide) (fun c_1 => ?_) (fun c_1 => ?_)
  · skip
    have c_1 : size ≤ k := (nI_leI (a := size) (b := k) (by omega) (by omega)).mp c_1
    refine lv_iconst (v := 0) hx hb dX11_isSign_22 (by decide) ?_
    exact hret _ _ _ dX11_isSign_23 rfl (zB.f (by first | assumption | omega | (simp; omega) | simp_all))
  · skip
    have c_1 : ¬ (size ≤ k) := (not_congr (nI_leI (a := size) (b := k) (by omega) (by omega))).mp c_1
    refine lv_aload_n hx hb dX11_isSign_8 rfl (lv_at hl 0 rfl) ?_
    refine va_get (D := D) (ci := 11) (v := .ref m_codes) (C := RX11) (T := TX11) (N := 40) hx hb hts zi_X11_isSign_X11 hown hK hP 0 rfl rfl 18 (by decide) (hts (.fieldLink RX11 43 "BeatenInsteadModel" "page" "[B") (List.mem_of_getElem? (i := 2) rfl)) (fun _ h9 => h9) rfl dX11_isSign_9 ?_
    refine lv_iload_n hx hb dX11_isSign_12 rfl (lv_at hl 1 rfl) ?_
    refine va_bald hx hb hK hP 1 1 rfl rfl (vp_in_nI (by omega) (by omega)) dX11_isSign_13 ?_
    refine z_top (y := nI (codes k)) (z_ld (f := fun q_ => nI (codes q_)) (a := k) (by omega) rfl) ?_
    have hck := hco k
    refine lv_iload_n hx hb dX11_isSign_14 rfl (lv_at hl 2 rfl) ?_
    refine lv_icmp_ne (tgt := 22) hx hb dX11_isSign_15 (by decide) (fun c_2 => ?_) (fun c_2 => ?_)
    · skip
      have c_2 : ¬ (codes k = sg) := (not_congr (nI_eq (a := codes k) (b := sg) (by omega) (by omega))).mp c_2
      refine lv_iconst (v := 0) hx hb dX11_isSign_22 (by decide) ?_
      exact hret _ _ _ dX11_isSign_23 rfl (zB.f (by first | assumption | omega | (simp; omega) | simp_all))
    · skip
      have c_2 : codes k = sg := (nI_eq (a := codes k) (b := sg) (by omega) (by omega)).mp c_2
      refine lv_iconst (v := 1) hx hb dX11_isSign_18 (by decide) ?_
      refine lv_goto (tgt := 23) hx hb dX11_isSign_19 (by decide) ?_
      exact hret _ _ _ dX11_isSign_23 rfl (zB.t (by first | assumption | omega | (simp; omega) | simp_all))

theorem zi_X11_isLesson_X11 : ∀ w ∈ wsX110, w ∈ wsX11_isLesson := fun _ h => List.mem_cons_of_mem _ (List.mem_append_right _ (h))
abbrev rm_X11_isLesson : Room := { frames := 1, cells := 0, slots := 0, locals := 22 }
set_option maxHeartbeats 4000000 in
set_option maxRecDepth 100000 in
theorem c_X11_isLesson (l : Launch) (D : va_G) (cI cB cP : ClassId) (mo : Nat) (m_hard : Nat) (m_blows : Nat) (m_stripes : Nat) (m_kd : Nat) (m_wt : Nat) (m_boys : Nat) (m_learnt : Nat) (m_fond : Nat) (m_qp : Nat) (m_ql : Nat) (m_qr : Nat) (m_codes : Nat) (m_left : Nat) (m_row : Nat) (m_sv : Nat) (m_k_fond : Nat) (m_k_stripes : Nat) (m_k_learnt : Nat) (m_k_boys : Nat) (m_k_qp : Nat) (m_k_ql : Nat) (m_k_qr : Nat) (wI : Int32) (nM : Int32) (sS : Int32) (sF : Int32) (lM : Int32) (sN : Int64) (iK : Int32) (kS : Int32) (kP : Int32) (kH : Int32) (hh : Int64) (sch : Int32) (asks : Int32) (lessons : Nat) (limit : Nat) (np : Nat) (nh : Nat) (size : Nat) (v : Int32) (hls : lessons ≤ 5)  : zPi l D cI cB cP yX11_isLesson wsX11_isLesson rm_X11_isLesson [.ref mo, .int v] ([(mo, .inr (11, [.int sch, .int (nI lessons), .int (nI limit), .ref m_hard, .ref m_blows, .ref m_stripes, .int (nI np), .ref m_kd, .ref m_wt, .ref m_boys, .ref m_learnt, .ref m_fond, .int (nI nh), .ref m_qp, .ref m_ql, .ref m_qr, .int asks, .int (nI size), .ref m_codes, .int wI, .int nM, .int sS, .int sF, .ref m_left, .int lM, .ref m_row, .long sN, .ref m_sv, .int iK, .int kS, .int kP, .int kH, .ref m_k_fond, .ref m_k_stripes, .ref m_k_learnt, .ref m_k_boys, .ref m_k_qp, .ref m_k_ql, .ref m_k_qr, .long hh]))]) (fun r => zB (¬ v < 0 ∧ v < nI lessons) r) := by
  refine zPz_of (cc := cX11_isLesson) (maxL := 2) (by decide) rfl (Nat.le_of_ble_eq_true rfl) ?_
  intro p e s m args below meth c ls Q hx hb hml hts hown hP hK hN hl hret
  have hown : s.vm.findClass RX11 = some m.cls := hown
  have hl : lv_has ls 2 [(0, .ref mo), (1, .int v)] := hl
  refine lv_iload_n hx hb dX11_isLesson_0 rfl (lv_at hl 1 rfl) ?_
  refine lv_iconst (v := 0) hx hb dX11_isLesson_1 (by decide) ?_
  refine lv_aload_n hx hb dX11_isLesson_2 rfl (lv_at hl 0 rfl) ?_
  refine va_get (D := D) (ci := 11) (v := .int (nI lessons)) (C := RX11) (T := TX11) (N := 40) hx hb hts zi_X11_isLesson_X11 hown hK hP 0 rfl rfl 1 (by decide) (hts (.fieldLink RX11 107 "BeatenInsteadModel" "lessons" "I") (List.mem_of_getElem? (i := 1) rfl)) (fun _ h9 => h9) rfl dX11_isLesson_3 ?_
  refine lv_iconst (v := 1) hx hb dX11_isLesson_6 (by decide) ?_
  refine lv_isub hx hb dX11_isLesson_7 ?_
  refine vp_callSi (z_runS (As := [.int v, .int 0, .int ((nI lessons) - 1)]) (rest := []) hx hb hml hown hts hK hN hl.1 (c_X11_within l D cI cB cP v 0 ((nI lessons) - 1)) gX11_isLesson_X11_within rfl zd_X11_within rfl (Nat.le_of_ble_eq_true rfl) (Nat.le_of_ble_eq_true rfl) z_p0 rfl (Nat.le_of_ble_eq_true rfl) dX11_isLesson_8 ⟨Nat.zero_le _, Nat.zero_le _⟩) (fun r hr => ?_)
  rcases hr with ⟨rfl, c_1⟩ | ⟨rfl, c_1⟩
  · skip
    exact hret _ _ _ dX11_isLesson_11 rfl (zB.t ⟨c_1.1, (z_lt1 hls).mp c_1.2⟩)
  · skip
    exact hret _ _ _ dX11_isLesson_11 rfl (zB.f (fun h => c_1 ⟨h.1, (z_lt1 hls).mpr h.2⟩))

theorem zi_X11_isBoy_X11 : ∀ w ∈ wsX110, w ∈ wsX11_isBoy := fun _ h => List.mem_cons_of_mem _ (List.mem_append_right _ (h))
abbrev rm_X11_isBoy : Room := { frames := 1, cells := 0, slots := 0, locals := 22 }
set_option maxHeartbeats 4000000 in
set_option maxRecDepth 100000 in
theorem c_X11_isBoy (l : Launch) (D : va_G) (cI cB cP : ClassId) (mo : Nat) (m_hard : Nat) (m_blows : Nat) (m_stripes : Nat) (m_kd : Nat) (m_wt : Nat) (m_boys : Nat) (m_learnt : Nat) (m_fond : Nat) (m_qp : Nat) (m_ql : Nat) (m_qr : Nat) (m_codes : Nat) (m_left : Nat) (m_row : Nat) (m_sv : Nat) (m_k_fond : Nat) (m_k_stripes : Nat) (m_k_learnt : Nat) (m_k_boys : Nat) (m_k_qp : Nat) (m_k_ql : Nat) (m_k_qr : Nat) (wI : Int32) (nM : Int32) (sS : Int32) (sF : Int32) (lM : Int32) (sN : Int64) (iK : Int32) (kS : Int32) (kP : Int32) (kH : Int32) (hh : Int64) (sch : Int32) (asks : Int32) (lessons : Nat) (limit : Nat) (np : Nat) (nh : Nat) (size : Nat) (v : Int32) (hls : lessons ≤ 5)  : zPi l D cI cB cP yX11_isBoy wsX11_isBoy rm_X11_isBoy [.ref mo, .int v] ([(mo, .inr (11, [.int sch, .int (nI lessons), .int (nI limit), .ref m_hard, .ref m_blows, .ref m_stripes, .int (nI np), .ref m_kd, .ref m_wt, .ref m_boys, .ref m_learnt, .ref m_fond, .int (nI nh), .ref m_qp, .ref m_ql, .ref m_qr, .int asks, .int (nI size), .ref m_codes, .int wI, .int nM, .int sS, .int sF, .ref m_left, .int lM, .ref m_row, .long sN, .ref m_sv, .int iK, .int kS, .int kP, .int kH, .ref m_k_fond, .ref m_k_stripes, .ref m_k_learnt, .ref m_k_boys, .ref m_k_qp, .ref m_k_ql, .ref m_k_qr, .long hh]))]) (fun r => zB (0 < lessons ∧ ¬ v < 0 ∧ v < 3) r) := by
  refine zPz_of (cc := cX11_isBoy) (maxL := 2) (by decide) rfl (Nat.le_of_ble_eq_true rfl) ?_
  intro p e s m args below meth c ls Q hx hb hml hts hown hP hK hN hl hret
  have hown : s.vm.findClass RX11 = some m.cls := hown
  have hl : lv_has ls 2 [(0, .ref mo), (1, .int v)] := hl
  refine lv_aload_n hx hb dX11_isBoy_0 rfl (lv_at hl 0 rfl) ?_
  refine va_get (D := D) (ci := 11) (v := .int (nI lessons)) (C := RX11) (T := TX11) (N := 40) hx hb hts zi_X11_isBoy_X11 hown hK hP 0 rfl rfl 1 (by decide) (hts (.fieldLink RX11 107 "BeatenInsteadModel" "lessons" "I") (List.mem_of_getElem? (i := 1) rfl)) (fun _ h9 => h9) rfl dX11_isBoy_1 ?_
  refine lv_if_le (tgt := 20) hx hb dX11_isBoy_4 (by decide) (fun c_1 => ?_) (fun c_1 => ?_)
  · skip
    have c_1 : lessons ≤ 0 := (nI_leI (a := lessons) (b := 0) (by omega) (by omega)).mp c_1
    refine lv_iconst (v := 0) hx hb dX11_isBoy_20 (by decide) ?_
    exact hret _ _ _ dX11_isBoy_21 rfl (zB.f (fun h => absurd h.1 (by omega)))
  · skip
    have c_1 : ¬ (lessons ≤ 0) := (not_congr (nI_leI (a := lessons) (b := 0) (by omega) (by omega))).mp c_1
    refine lv_iload_n hx hb dX11_isBoy_7 rfl (lv_at hl 1 rfl) ?_
    refine lv_iconst (v := 0) hx hb dX11_isBoy_8 (by decide) ?_
    refine lv_iconst (v := 2) hx hb dX11_isBoy_9 (by decide) ?_
    refine vp_callSi (z_runS (As := [.int v, .int 0, .int 2]) (rest := []) hx hb hml hown hts hK hN hl.1 (c_X11_within l D cI cB cP v 0 2) gX11_isBoy_X11_within rfl zd_X11_within rfl (Nat.le_of_ble_eq_true rfl) (Nat.le_of_ble_eq_true rfl) z_p0 rfl (Nat.le_of_ble_eq_true rfl) dX11_isBoy_10 ⟨Nat.zero_le _, Nat.zero_le _⟩) (fun r hr => ?_)
    rcases hr with ⟨rfl, c_2⟩ | ⟨rfl, c_2⟩
    · skip
      refine lv_if_eq (tgt := 20) hx hb dX11_isBoy_13 (by decide) (fun c => absurd c (by decide)) (fun _ => ?_)
      refine lv_iconst (v := 1) hx hb dX11_isBoy_16 (by decide) ?_
      refine lv_goto (tgt := 21) hx hb dX11_isBoy_17 (by decide) ?_
      exact hret _ _ _ dX11_isBoy_21 rfl (zB.t ⟨by omega, c_2.1, z_lt2 c_2.2⟩)
    · skip
      refine lv_if_eq (tgt := 20) hx hb dX11_isBoy_13 (by decide) (fun _ => ?_) (fun c => absurd c (by decide))
      refine lv_iconst (v := 0) hx hb dX11_isBoy_20 (by decide) ?_
      exact hret _ _ _ dX11_isBoy_21 rfl (zB.f (fun h => c_2 ⟨h.2.1, z_lt2' h.2.2⟩))

theorem zi_X11_isPrince_X11 : ∀ w ∈ wsX110, w ∈ wsX11_isPrince := fun _ h => List.mem_cons_of_mem _ (List.mem_append_right _ (h))
abbrev rm_X11_isPrince : Room := { frames := 1, cells := 0, slots := 0, locals := 22 }
set_option maxHeartbeats 4000000 in
set_option maxRecDepth 100000 in
theorem c_X11_isPrince (l : Launch) (D : va_G) (cI cB cP : ClassId) (mo : Nat) (m_hard : Nat) (m_blows : Nat) (m_stripes : Nat) (m_kd : Nat) (m_wt : Nat) (m_boys : Nat) (m_learnt : Nat) (m_fond : Nat) (m_qp : Nat) (m_ql : Nat) (m_qr : Nat) (m_codes : Nat) (m_left : Nat) (m_row : Nat) (m_sv : Nat) (m_k_fond : Nat) (m_k_stripes : Nat) (m_k_learnt : Nat) (m_k_boys : Nat) (m_k_qp : Nat) (m_k_ql : Nat) (m_k_qr : Nat) (wI : Int32) (nM : Int32) (sS : Int32) (sF : Int32) (lM : Int32) (sN : Int64) (iK : Int32) (kS : Int32) (kP : Int32) (kH : Int32) (hh : Int64) (sch : Int32) (asks : Int32) (lessons : Nat) (limit : Nat) (np : Nat) (nh : Nat) (size : Nat) (v : Int32) (hnp : np ≤ 3)  : zPi l D cI cB cP yX11_isPrince wsX11_isPrince rm_X11_isPrince [.ref mo, .int v] ([(mo, .inr (11, [.int sch, .int (nI lessons), .int (nI limit), .ref m_hard, .ref m_blows, .ref m_stripes, .int (nI np), .ref m_kd, .ref m_wt, .ref m_boys, .ref m_learnt, .ref m_fond, .int (nI nh), .ref m_qp, .ref m_ql, .ref m_qr, .int asks, .int (nI size), .ref m_codes, .int wI, .int nM, .int sS, .int sF, .ref m_left, .int lM, .ref m_row, .long sN, .ref m_sv, .int iK, .int kS, .int kP, .int kH, .ref m_k_fond, .ref m_k_stripes, .ref m_k_learnt, .ref m_k_boys, .ref m_k_qp, .ref m_k_ql, .ref m_k_qr, .long hh]))]) (fun r => zB (¬ v < 0 ∧ v < nI np) r) := by
  refine zPz_of (cc := cX11_isPrince) (maxL := 2) (by decide) rfl (Nat.le_of_ble_eq_true rfl) ?_
  intro p e s m args below meth c ls Q hx hb hml hts hown hP hK hN hl hret
  have hown : s.vm.findClass RX11 = some m.cls := hown
  have hl : lv_has ls 2 [(0, .ref mo), (1, .int v)] := hl
  refine lv_iload_n hx hb dX11_isPrince_0 rfl (lv_at hl 1 rfl) ?_
  refine lv_iconst (v := 0) hx hb dX11_isPrince_1 (by decide) ?_
  refine lv_aload_n hx hb dX11_isPrince_2 rfl (lv_at hl 0 rfl) ?_
  refine va_get (D := D) (ci := 11) (v := .int (nI np)) (C := RX11) (T := TX11) (N := 40) hx hb hts zi_X11_isPrince_X11 hown hK hP 0 rfl rfl 6 (by decide) (hts (.fieldLink RX11 116 "BeatenInsteadModel" "princes" "I") (List.mem_of_getElem? (i := 1) rfl)) (fun _ h9 => h9) rfl dX11_isPrince_3 ?_
  refine lv_iconst (v := 1) hx hb dX11_isPrince_6 (by decide) ?_
  refine lv_isub hx hb dX11_isPrince_7 ?_
  refine vp_callSi (z_runS (As := [.int v, .int 0, .int ((nI np) - 1)]) (rest := []) hx hb hml hown hts hK hN hl.1 (c_X11_within l D cI cB cP v 0 ((nI np) - 1)) gX11_isPrince_X11_within rfl zd_X11_within rfl (Nat.le_of_ble_eq_true rfl) (Nat.le_of_ble_eq_true rfl) z_p0 rfl (Nat.le_of_ble_eq_true rfl) dX11_isPrince_8 ⟨Nat.zero_le _, Nat.zero_le _⟩) (fun r hr => ?_)
  rcases hr with ⟨rfl, c_1⟩ | ⟨rfl, c_1⟩
  · skip
    exact hret _ _ _ dX11_isPrince_11 rfl (zB.t ⟨c_1.1, (z_lt1 (by omega)).mp c_1.2⟩)
  · skip
    exact hret _ _ _ dX11_isPrince_11 rfl (zB.f (fun h => c_1 ⟨h.1, (z_lt1 (by omega)).mpr h.2⟩))

theorem zi_X11_learntBy_X11 : ∀ w ∈ wsX110, w ∈ wsX11_learntBy := fun _ h => List.mem_cons_of_mem _ (List.mem_append_right _ (h))
abbrev rm_X11_learntBy : Room := { frames := 1, cells := 0, slots := 0, locals := 21 }
set_option maxHeartbeats 4000000 in
set_option maxRecDepth 100000 in
theorem c_X11_learntBy (l : Launch) (D : va_G) (cI cB cP : ClassId) (mo : Nat) (m_hard : Nat) (m_blows : Nat) (m_stripes : Nat) (m_kd : Nat) (m_wt : Nat) (m_boys : Nat) (m_learnt : Nat) (m_fond : Nat) (m_qp : Nat) (m_ql : Nat) (m_qr : Nat) (m_codes : Nat) (m_left : Nat) (m_row : Nat) (m_sv : Nat) (m_k_fond : Nat) (m_k_stripes : Nat) (m_k_learnt : Nat) (m_k_boys : Nat) (m_k_qp : Nat) (m_k_ql : Nat) (m_k_qr : Nat) (wI : Int32) (nM : Int32) (sS : Int32) (sF : Int32) (lM : Int32) (sN : Int64) (iK : Int32) (kS : Int32) (kP : Int32) (kH : Int32) (hh : Int64) (sch : Int32) (asks : Int32) (lessons : Nat) (limit : Nat) (np : Nat) (nh : Nat) (size : Nat) (learnt : Nat → Nat) (k : Nat) (hnp : np ≤ 3) (hle : ∀ i, learnt i < 32) (hk : k < 5)  : zPi l D cI cB cP yX11_learntBy wsX11_learntBy rm_X11_learntBy [.ref mo, .int (nI k)] ([(mo, .inr (11, [.int sch, .int (nI lessons), .int (nI limit), .ref m_hard, .ref m_blows, .ref m_stripes, .int (nI np), .ref m_kd, .ref m_wt, .ref m_boys, .ref m_learnt, .ref m_fond, .int (nI nh), .ref m_qp, .ref m_ql, .ref m_qr, .int asks, .int (nI size), .ref m_codes, .int wI, .int nM, .int sS, .int sF, .ref m_left, .int lM, .ref m_row, .long sN, .ref m_sv, .int iK, .int kS, .int kP, .int kH, .ref m_k_fond, .ref m_k_stripes, .ref m_k_learnt, .ref m_k_boys, .ref m_k_qp, .ref m_k_ql, .ref m_k_qr, .long hh])), (m_learnt, .inl (cI, 3, .inl (fun q_ => nI (learnt q_))))]) (fun r => r = nI (zWho learnt k np)) := by
  refine zPi_of (cc := cX11_learntBy) (maxL := 4) (by decide) rfl (Nat.le_of_ble_eq_true rfl) ?_
  intro p e s m args below meth c ls Q hx hb hml hts hown hP hK hN hl hret
  have hown : s.vm.findClass RX11 = some m.cls := hown
  have hl : lv_has ls 4 [(0, .ref mo), (1, .int (nI k))] := hl
  refine lv_iconst (v := 0) hx hb dX11_learntBy_0 (by decide) ?_
  refine lv_istore_n (lv' := [(2, .int 0), (0, .ref mo), (1, .int (nI k))]) hx hb dX11_learntBy_1 rfl hl (by decide) rfl (fun ls hl => ?_)
  refine lv_iconst (v := 0) hx hb dX11_learntBy_2 (by decide) ?_
  refine lv_istore_n (lv' := [(3, .int 0), (2, .int 0), (0, .ref mo), (1, .int (nI k))]) hx hb dX11_learntBy_3 rfl hl (by decide) rfl (fun ls hl => ?_)
  have loop_4 : ∀ (fu_4 : Nat) (y i : Nat), (i ≤ np) → (y = zWho learnt k i) → np - i < fu_4 → ∀ (ls : Array Slot), lv_has ls 4 [(3, .int (nI i)), (2, .int (nI y)), (0, .ref mo), (1, .int (nI k))] → W p l e rm_X11_learntBy s m args below meth c s.heap [] 0 0 Q (F0 m 4 ls []) := by
    intro fu_4
    induction fu_4 with
    | zero => intro y i hi hy hn_4; exact absurd hn_4 (by omega)
    | succ fu_4 ih_4 =>
      intro y i hi hy hn_4 ls hl
      have hlei := hle i
      have hy2 : y < 32 := by rw [hy]; exact zWho_lt (by omega)
      have hp2 : 2 ^ i < 2 ^ 31 := Nat.pow_lt_pow_right (by omega) (by omega)
      refine lv_iload_n hx hb dX11_learntBy_4 rfl (lv_at hl 0 rfl) ?_
      refine lv_aload_n hx hb dX11_learntBy_5 rfl (lv_at hl 2 rfl) ?_
      refine va_get (D := D) (ci := 11) (v := .int (nI np)) (C := RX11) (T := TX11) (N := 40) hx hb hts zi_X11_learntBy_X11 hown hK hP 0 rfl rfl 6 (by decide) (hts (.fieldLink RX11 116 "BeatenInsteadModel" "princes" "I") (List.mem_of_getElem? (i := 1) rfl)) (fun _ h9 => h9) rfl dX11_learntBy_6 ?_
      refine lv_icmp_ge (tgt := 41) hx hb dX11_learntBy_9 (by decide) (fun c_1 => ?_) (fun c_1 => ?_)
      · skip
        have c_1 : np ≤ i := (nI_leI (a := np) (b := i) (by omega) (by omega)).mp c_1
        refine lv_iload_n hx hb dX11_learntBy_41 rfl (lv_at hl 1 rfl) ?_
        exact hret _ _ _ dX11_learntBy_42 (by rw [hy, show i = np by omega])
      · skip
        have c_1 : ¬ (np ≤ i) := (not_congr (nI_leI (a := np) (b := i) (by omega) (by omega))).mp c_1
        refine lv_iload_n hx hb dX11_learntBy_12 rfl (lv_at hl 1 rfl) ?_
        refine lv_aload_n hx hb dX11_learntBy_13 rfl (lv_at hl 2 rfl) ?_
        refine va_get (D := D) (ci := 11) (v := .ref m_learnt) (C := RX11) (T := TX11) (N := 40) hx hb hts zi_X11_learntBy_X11 hown hK hP 0 rfl rfl 10 (by decide) (hts (.fieldLink RX11 28 "BeatenInsteadModel" "learntOf" "[I") (List.mem_of_getElem? (i := 2) rfl)) (fun _ h9 => h9) rfl dX11_learntBy_14 ?_
        refine lv_iload_n hx hb dX11_learntBy_17 rfl (lv_at hl 0 rfl) ?_
        refine va_iald hx hb hK hP 1 0 rfl rfl (vp_in_nI (by omega) (by omega)) dX11_learntBy_18 ?_
        refine z_top (y := nI (learnt i)) (z_ld (f := fun q_ => nI (learnt q_)) (a := i) (by omega) rfl) ?_
        refine lv_iload_n hx hb dX11_learntBy_19 rfl (lv_at hl 3 rfl) ?_
        refine vp_callSi (z_runS (As := [.int (nI (learnt i)), .int (nI k)]) (rest := [.int (nI y)]) hx hb hml hown hts hK hN hl.1 (c_X11_has l D cI cB cP (learnt i) k (by first | assumption | omega) (by first | assumption | omega)) gX11_learntBy_X11_has rfl zd_X11_has rfl (Nat.le_of_ble_eq_true rfl) (Nat.le_of_ble_eq_true rfl) z_p0 rfl (Nat.le_of_ble_eq_true rfl) dX11_learntBy_20 ⟨Nat.zero_le _, Nat.zero_le _⟩) (fun r hr => ?_)
        rcases hr with ⟨rfl, c_2⟩ | ⟨rfl, c_2⟩
        · skip
          refine lv_if_eq (tgt := 32) hx hb dX11_learntBy_23 (by decide) (fun c => absurd c (by decide)) (fun _ => ?_)
          refine lv_iconst (v := 1) hx hb dX11_learntBy_26 (by decide) ?_
          refine lv_iload_n hx hb dX11_learntBy_27 rfl (lv_at hl 0 rfl) ?_
          refine lv_ishl hx hb dX11_learntBy_28 ?_
          refine z_top (show (1 <<< ((nI i) &&& 31)) = nI (2 ^ i) from z_or10 i (by omega)) ?_
          refine lv_goto (tgt := 33) hx hb dX11_learntBy_29 (by decide) ?_
          refine lv_ior hx hb dX11_learntBy_33 ?_
          refine z_top (show ((nI y) ||| (nI (2 ^ i))) = nI (y ||| 2 ^ i) from z_lor (by omega) hp2) ?_
          refine lv_istore_n (lv' := [(2, .int (nI (y ||| 2 ^ i))), (3, .int (nI i)), (0, .ref mo), (1, .int (nI k))]) hx hb dX11_learntBy_34 rfl hl (by decide) rfl (fun ls hl => ?_)
          refine lv_iinc (v := nI (i + 1)) (lv' := [(3, .int (nI (i + 1))), (2, .int (nI (y ||| 2 ^ i))), (0, .ref mo), (1, .int (nI k))]) hx hb dX11_learntBy_35 hl (k := 1) rfl (nI_add (i) 1) (by decide) rfl (fun ls hl => ?_)
          refine lv_goto (tgt := 4) hx hb dX11_learntBy_38 (by decide) ?_
          exact ih_4 (y ||| 2 ^ i) (i + 1) (by omega) (by rw [zWho, if_pos c_2, hy]) (by omega) ls hl
        · skip
          refine lv_if_eq (tgt := 32) hx hb dX11_learntBy_23 (by decide) (fun _ => ?_) (fun c => absurd c (by decide))
          refine lv_iconst (v := 0) hx hb dX11_learntBy_32 (by decide) ?_
          refine lv_ior hx hb dX11_learntBy_33 ?_
          refine z_top (show ((nI y) ||| 0) = nI y from z_or0 _) ?_
          refine lv_istore_n (lv' := [(2, .int (nI y)), (3, .int (nI i)), (0, .ref mo), (1, .int (nI k))]) hx hb dX11_learntBy_34 rfl hl (by decide) rfl (fun ls hl => ?_)
          refine lv_iinc (v := nI (i + 1)) (lv' := [(3, .int (nI (i + 1))), (2, .int (nI y)), (0, .ref mo), (1, .int (nI k))]) hx hb dX11_learntBy_35 hl (k := 1) rfl (nI_add (i) 1) (by decide) rfl (fun ls hl => ?_)
          refine lv_goto (tgt := 4) hx hb dX11_learntBy_38 (by decide) ?_
          exact ih_4 y (i + 1) (by omega) (by rw [zWho, if_neg c_2, hy]) (by omega) ls hl
  exact loop_4 _ 0 0 (Nat.zero_le _) (rfl) (Nat.lt_succ_self _) ls hl

theorem zi_X11_lessonNow_X11 : ∀ w ∈ wsX110, w ∈ wsX11_lessonNow := fun _ h => List.mem_cons_of_mem _ (List.mem_append_right _ (h))
abbrev rm_X11_lessonNow : Room := { frames := 2, cells := 0, slots := 0, locals := 44 }
set_option maxHeartbeats 4000000 in
set_option maxRecDepth 100000 in
theorem c_X11_lessonNow (l : Launch) (D : va_G) (cI cB cP : ClassId) (mo : Nat) (m_hard : Nat) (m_blows : Nat) (m_stripes : Nat) (m_kd : Nat) (m_wt : Nat) (m_boys : Nat) (m_learnt : Nat) (m_fond : Nat) (m_qp : Nat) (m_ql : Nat) (m_qr : Nat) (m_codes : Nat) (m_left : Nat) (m_row : Nat) (m_sv : Nat) (m_k_fond : Nat) (m_k_stripes : Nat) (m_k_learnt : Nat) (m_k_boys : Nat) (m_k_qp : Nat) (m_k_ql : Nat) (m_k_qr : Nat) (wI : Int32) (nM : Int32) (sS : Int32) (sF : Int32) (lM : Int32) (sN : Int64) (iK : Int32) (kS : Int32) (kP : Int32) (kH : Int32) (hh : Int64) (sch : Int32) (asks : Int32) (lessons : Nat) (limit : Nat) (np : Nat) (nh : Nat) (size : Nat) (hard : Nat → Nat) (blows : Nat → Nat) (learnt : Nat → Nat) (k : Nat) (w : Int32) (hnp : np ≤ 3) (hle : ∀ i, learnt i < 32) (hk : k < 5)  : zPi l D cI cB cP yX11_lessonNow wsX11_lessonNow rm_X11_lessonNow [.ref mo, .int (nI k), .int w] ([(mo, .inr (11, [.int sch, .int (nI lessons), .int (nI limit), .ref m_hard, .ref m_blows, .ref m_stripes, .int (nI np), .ref m_kd, .ref m_wt, .ref m_boys, .ref m_learnt, .ref m_fond, .int (nI nh), .ref m_qp, .ref m_ql, .ref m_qr, .int asks, .int (nI size), .ref m_codes, .int wI, .int nM, .int sS, .int sF, .ref m_left, .int lM, .ref m_row, .long sN, .ref m_sv, .int iK, .int kS, .int kP, .int kH, .ref m_k_fond, .ref m_k_stripes, .ref m_k_learnt, .ref m_k_boys, .ref m_k_qp, .ref m_k_ql, .ref m_k_qr, .long hh])), (m_hard, .inl (cI, 5, .inl (fun q_ => nI (hard q_)))), (m_blows, .inl (cI, 5, .inl (fun q_ => nI (blows q_)))), (m_learnt, .inl (cI, 3, .inl (fun q_ => nI (learnt q_))))]) (fun r => r = if w = 0 then nI (hard k) else if w = 1 then nI (blows k) else nI (zWho learnt k np)) := by
  refine zPi_of (cc := cX11_lessonNow) (maxL := 3) (by decide) rfl (Nat.le_of_ble_eq_true rfl) ?_
  intro p e s m args below meth c ls Q hx hb hml hts hown hP hK hN hl hret
  have hown : s.vm.findClass RX11 = some m.cls := hown
  have hl : lv_has ls 3 [(0, .ref mo), (1, .int (nI k)), (2, .int w)] := hl
  refine lv_iload_n hx hb dX11_lessonNow_0 rfl (lv_at hl 2 rfl) ?_
  refine lv_if_ne (tgt := 13) hx hb dX11_lessonNow_1 (by decide) (fun c_1 => ?_) (fun c_1 => ?_)
  · skip
    refine lv_iload_n hx hb dX11_lessonNow_13 rfl (lv_at hl 2 rfl) ?_
    refine lv_iconst (v := 1) hx hb dX11_lessonNow_14 (by decide) ?_
    refine lv_icmp_ne (tgt := 27) hx hb dX11_lessonNow_15 (by decide) (fun c_2 => ?_) (fun c_2 => ?_)
    · skip
      refine lv_aload_n hx hb dX11_lessonNow_27 rfl (lv_at hl 0 rfl) ?_
      refine lv_iload_n hx hb dX11_lessonNow_28 rfl (lv_at hl 1 rfl) ?_
      refine vp_callSi (z_runV (b := mo) (As := [.int (nI k)]) (rest := []) hx hb hml hown hts hK hN hl.1 (c_X11_learntBy l D cI cB cP mo m_hard m_blows m_stripes m_kd m_wt m_boys m_learnt m_fond m_qp m_ql m_qr m_codes m_left m_row m_sv m_k_fond m_k_stripes m_k_learnt m_k_boys m_k_qp m_k_ql m_k_qr wI nM sS sF lM sN iK kS kP kH hh sch asks lessons limit np nh size learnt k (by first | assumption | omega) (by first | assumption | omega) (by first | assumption | omega)) gX11_lessonNow_X11_learntBy rfl zd_X11_learntBy rfl (Nat.le_of_ble_eq_true rfl) (Nat.le_of_ble_eq_true rfl) (va_P.sub (ws' := [(mo, .inr (11, [.int sch, .int (nI lessons), .int (nI limit), .ref m_hard, .ref m_blows, .ref m_stripes, .int (nI np), .ref m_kd, .ref m_wt, .ref m_boys, .ref m_learnt, .ref m_fond, .int (nI nh), .ref m_qp, .ref m_ql, .ref m_qr, .int asks, .int (nI size), .ref m_codes, .int wI, .int nM, .int sS, .int sF, .ref m_left, .int lM, .ref m_row, .long sN, .ref m_sv, .int iK, .int kS, .int kP, .int kH, .ref m_k_fond, .ref m_k_stripes, .ref m_k_learnt, .ref m_k_boys, .ref m_k_qp, .ref m_k_ql, .ref m_k_qr, .long hh])), (m_learnt, .inl (cI, 3, .inl (fun q_ => nI (learnt q_))))]) hP [0, 3] rfl) (va_recv hK hP (ci := 11) (q0 := 0) rfl rfl) rfl (Nat.le_of_ble_eq_true rfl) dX11_lessonNow_29 ⟨Nat.zero_le _, Nat.zero_le _⟩) (fun r hr => ?_)
      subst hr
      exact hret _ _ _ dX11_lessonNow_32 (by rw [if_neg c_1, if_neg c_2])
    · skip
      refine lv_aload_n hx hb dX11_lessonNow_18 rfl (lv_at hl 0 rfl) ?_
      refine va_get (D := D) (ci := 11) (v := .ref m_blows) (C := RX11) (T := TX11) (N := 40) hx hb hts zi_X11_lessonNow_X11 hown hK hP 0 rfl rfl 4 (by decide) (hts (.fieldLink RX11 13 "BeatenInsteadModel" "blowsOf" "[I") (List.mem_of_getElem? (i := 2) rfl)) (fun _ h9 => h9) rfl dX11_lessonNow_19 ?_
      refine lv_iload_n hx hb dX11_lessonNow_22 rfl (lv_at hl 1 rfl) ?_
      refine va_iald hx hb hK hP 2 0 rfl rfl (vp_in_nI (by omega) (by omega)) dX11_lessonNow_23 ?_
      refine z_top (y := nI (blows k)) (z_ld (f := fun q_ => nI (blows q_)) (a := k) (by omega) rfl) ?_
      refine lv_goto (tgt := 32) hx hb dX11_lessonNow_24 (by decide) ?_
      exact hret _ _ _ dX11_lessonNow_32 (by rw [if_neg c_1, if_pos c_2])
  · skip
    refine lv_aload_n hx hb dX11_lessonNow_4 rfl (lv_at hl 0 rfl) ?_
    refine va_get (D := D) (ci := 11) (v := .ref m_hard) (C := RX11) (T := TX11) (N := 40) hx hb hts zi_X11_lessonNow_X11 hown hK hP 0 rfl rfl 3 (by decide) (hts (.fieldLink RX11 7 "BeatenInsteadModel" "hardOf" "[I") (List.mem_of_getElem? (i := 1) rfl)) (fun _ h9 => h9) rfl dX11_lessonNow_5 ?_
    refine lv_iload_n hx hb dX11_lessonNow_8 rfl (lv_at hl 1 rfl) ?_
    refine va_iald hx hb hK hP 1 0 rfl rfl (vp_in_nI (by omega) (by omega)) dX11_lessonNow_9 ?_
    refine z_top (y := nI (hard k)) (z_ld (f := fun q_ => nI (hard q_)) (a := k) (by omega) rfl) ?_
    refine lv_goto (tgt := 32) hx hb dX11_lessonNow_10 (by decide) ?_
    exact hret _ _ _ dX11_lessonNow_32 (by rw [if_pos c_1])

abbrev rm_X11_lesson : Room := { frames := 3, cells := 0, slots := 0, locals := 66 }
set_option maxHeartbeats 4000000 in
set_option maxRecDepth 100000 in
theorem c_X11_lesson (l : Launch) (D : va_G) (cI cB cP : ClassId) (mo : Nat) (m_hard : Nat) (m_blows : Nat) (m_stripes : Nat) (m_kd : Nat) (m_wt : Nat) (m_boys : Nat) (m_learnt : Nat) (m_fond : Nat) (m_qp : Nat) (m_ql : Nat) (m_qr : Nat) (m_codes : Nat) (m_left : Nat) (m_row : Nat) (m_sv : Nat) (m_k_fond : Nat) (m_k_stripes : Nat) (m_k_learnt : Nat) (m_k_boys : Nat) (m_k_qp : Nat) (m_k_ql : Nat) (m_k_qr : Nat) (wI : Int32) (nM : Int32) (sS : Int32) (sF : Int32) (lM : Int32) (sN : Int64) (iK : Int32) (kS : Int32) (kP : Int32) (kH : Int32) (hh : Int64) (sch : Int32) (asks : Int32) (lessons : Nat) (limit : Nat) (np : Nat) (nh : Nat) (size : Nat) (hard : Nat → Nat) (blows : Nat → Nat) (learnt : Nat → Nat) (l_ : Int32) (w : Int32) (hnp : np ≤ 3) (hle : ∀ i, learnt i < 32) (hls : lessons ≤ 5)  : zPi l D cI cB cP yX11_lesson wsX11_lesson rm_X11_lesson [.ref mo, .int l_, .int w] ([(mo, .inr (11, [.int sch, .int (nI lessons), .int (nI limit), .ref m_hard, .ref m_blows, .ref m_stripes, .int (nI np), .ref m_kd, .ref m_wt, .ref m_boys, .ref m_learnt, .ref m_fond, .int (nI nh), .ref m_qp, .ref m_ql, .ref m_qr, .int asks, .int (nI size), .ref m_codes, .int wI, .int nM, .int sS, .int sF, .ref m_left, .int lM, .ref m_row, .long sN, .ref m_sv, .int iK, .int kS, .int kP, .int kH, .ref m_k_fond, .ref m_k_stripes, .ref m_k_learnt, .ref m_k_boys, .ref m_k_qp, .ref m_k_ql, .ref m_k_qr, .long hh])), (m_hard, .inl (cI, 5, .inl (fun q_ => nI (hard q_)))), (m_blows, .inl (cI, 5, .inl (fun q_ => nI (blows q_)))), (m_learnt, .inl (cI, 3, .inl (fun q_ => nI (learnt q_))))]) (fun r => r = zLesson lessons hard blows learnt np l_ w) := by
  refine zPi_of (cc := cX11_lesson) (maxL := 3) (by decide) rfl (Nat.le_of_ble_eq_true rfl) ?_
  intro p e s m args below meth c ls Q hx hb hml hts hown hP hK hN hl hret
  have hown : s.vm.findClass RX11 = some m.cls := hown
  have hl : lv_has ls 3 [(0, .ref mo), (1, .int l_), (2, .int w)] := hl
  refine lv_aload_n hx hb dX11_lesson_0 rfl (lv_at hl 0 rfl) ?_
  refine lv_iload_n hx hb dX11_lesson_1 rfl (lv_at hl 1 rfl) ?_
  refine vp_callSi (z_runV (b := mo) (As := [.int l_]) (rest := []) hx hb hml hown hts hK hN hl.1 (c_X11_isLesson l D cI cB cP mo m_hard m_blows m_stripes m_kd m_wt m_boys m_learnt m_fond m_qp m_ql m_qr m_codes m_left m_row m_sv m_k_fond m_k_stripes m_k_learnt m_k_boys m_k_qp m_k_ql m_k_qr wI nM sS sF lM sN iK kS kP kH hh sch asks lessons limit np nh size l_ (by first | assumption | omega)) gX11_lesson_X11_isLesson rfl zd_X11_isLesson rfl (Nat.le_of_ble_eq_true rfl) (Nat.le_of_ble_eq_true rfl) (va_P.sub (ws' := [(mo, .inr (11, [.int sch, .int (nI lessons), .int (nI limit), .ref m_hard, .ref m_blows, .ref m_stripes, .int (nI np), .ref m_kd, .ref m_wt, .ref m_boys, .ref m_learnt, .ref m_fond, .int (nI nh), .ref m_qp, .ref m_ql, .ref m_qr, .int asks, .int (nI size), .ref m_codes, .int wI, .int nM, .int sS, .int sF, .ref m_left, .int lM, .ref m_row, .long sN, .ref m_sv, .int iK, .int kS, .int kP, .int kH, .ref m_k_fond, .ref m_k_stripes, .ref m_k_learnt, .ref m_k_boys, .ref m_k_qp, .ref m_k_ql, .ref m_k_qr, .long hh]))]) hP [0] rfl) (va_recv hK hP (ci := 11) (q0 := 0) rfl rfl) rfl (Nat.le_of_ble_eq_true rfl) dX11_lesson_2 ⟨Nat.zero_le _, Nat.zero_le _⟩) (fun r hr => ?_)
  rcases hr with ⟨rfl, c_1⟩ | ⟨rfl, c_1⟩
  · skip
    refine lv_if_ne (tgt := 13) hx hb dX11_lesson_5 (by decide) (fun _ => ?_) (fun c => absurd c (by decide))
    refine lv_iload_n hx hb dX11_lesson_13 rfl (lv_at hl 2 rfl) ?_
    refine lv_iconst (v := 0) hx hb dX11_lesson_14 (by decide) ?_
    refine lv_iconst (v := 2) hx hb dX11_lesson_15 (by decide) ?_
    refine vp_callSi (z_runS (As := [.int w, .int 0, .int 2]) (rest := []) hx hb hml hown hts hK hN hl.1 (c_X11_within l D cI cB cP w 0 2) gX11_lesson_X11_within rfl zd_X11_within rfl (Nat.le_of_ble_eq_true rfl) (Nat.le_of_ble_eq_true rfl) z_p0 rfl (Nat.le_of_ble_eq_true rfl) dX11_lesson_16 ⟨Nat.zero_le _, Nat.zero_le _⟩) (fun r hr => ?_)
    rcases hr with ⟨rfl, c_2⟩ | ⟨rfl, c_2⟩
    · skip
      refine lv_if_eq (tgt := 31) hx hb dX11_lesson_19 (by decide) (fun c => absurd c (by decide)) (fun _ => ?_)
      obtain ⟨i, hi_, rfl⟩ := z_natlt c_1.1 c_1.2 (by omega)
      refine lv_aload_n hx hb dX11_lesson_22 rfl (lv_at hl 0 rfl) ?_
      refine lv_iload_n hx hb dX11_lesson_23 rfl (lv_at hl 1 rfl) ?_
      refine lv_iload_n hx hb dX11_lesson_24 rfl (lv_at hl 2 rfl) ?_
      refine vp_callSi (z_runV (b := mo) (As := [.int (nI i), .int w]) (rest := []) hx hb hml hown hts hK hN hl.1 (c_X11_lessonNow l D cI cB cP mo m_hard m_blows m_stripes m_kd m_wt m_boys m_learnt m_fond m_qp m_ql m_qr m_codes m_left m_row m_sv m_k_fond m_k_stripes m_k_learnt m_k_boys m_k_qp m_k_ql m_k_qr wI nM sS sF lM sN iK kS kP kH hh sch asks lessons limit np nh size hard blows learnt i w (by first | assumption | omega) (by first | assumption | omega) (by first | assumption | omega)) gX11_lesson_X11_lessonNow rfl zd_X11_lessonNow rfl (Nat.le_of_ble_eq_true rfl) (Nat.le_of_ble_eq_true rfl) (va_P.sub (ws' := [(mo, .inr (11, [.int sch, .int (nI lessons), .int (nI limit), .ref m_hard, .ref m_blows, .ref m_stripes, .int (nI np), .ref m_kd, .ref m_wt, .ref m_boys, .ref m_learnt, .ref m_fond, .int (nI nh), .ref m_qp, .ref m_ql, .ref m_qr, .int asks, .int (nI size), .ref m_codes, .int wI, .int nM, .int sS, .int sF, .ref m_left, .int lM, .ref m_row, .long sN, .ref m_sv, .int iK, .int kS, .int kP, .int kH, .ref m_k_fond, .ref m_k_stripes, .ref m_k_learnt, .ref m_k_boys, .ref m_k_qp, .ref m_k_ql, .ref m_k_qr, .long hh])), (m_hard, .inl (cI, 5, .inl (fun q_ => nI (hard q_)))), (m_blows, .inl (cI, 5, .inl (fun q_ => nI (blows q_)))), (m_learnt, .inl (cI, 3, .inl (fun q_ => nI (learnt q_))))]) hP [0, 1, 2, 3] rfl) (va_recv hK hP (ci := 11) (q0 := 0) rfl rfl) rfl (Nat.le_of_ble_eq_true rfl) dX11_lesson_25 ⟨Nat.zero_le _, Nat.zero_le _⟩) (fun r hr => ?_)
      subst hr
      refine lv_goto (tgt := 33) hx hb dX11_lesson_28 (by decide) ?_
      exact hret _ _ _ dX11_lesson_33 (by rw [zLesson, if_neg (z_l5 hi_ hls), nI_clamp (by omega)]; by_cases h0 : w = 0; (rw [if_pos h0, if_pos h0]); by_cases h1 : w = 1; (rw [if_neg h0, if_neg h0, if_pos h1, if_pos h1]); rw [if_neg h0, if_neg h0, if_neg h1, if_neg h1, if_pos (z_w2 c_2 h0 h1)])
    · skip
      refine lv_if_eq (tgt := 31) hx hb dX11_lesson_19 (by decide) (fun _ => ?_) (fun c => absurd c (by decide))
      refine lv_bipush (v := (-102)) hx hb dX11_lesson_31 (by decide) ?_
      exact hret _ _ _ dX11_lesson_33 (by rw [zLesson, if_neg (fun h => h.elim c_1.1 (fun h => h c_1.2)), if_neg (fun h => c_2 (by subst h; decide)), if_neg (fun h => c_2 (by subst h; decide)), if_neg (fun h => c_2 (by subst h; decide))])
  · skip
    refine lv_if_ne (tgt := 13) hx hb dX11_lesson_5 (by decide) (fun c => absurd c (by decide)) (fun _ => ?_)
    refine lv_bipush (v := (-101)) hx hb dX11_lesson_8 (by decide) ?_
    refine lv_goto (tgt := 33) hx hb dX11_lesson_10 (by decide) ?_
    exact hret _ _ _ dX11_lesson_33 (by rw [zLesson, if_pos (z_nl c_1)])

theorem zi_X11_stripes_X11 : ∀ w ∈ wsX110, w ∈ wsX11_stripes := fun _ h => List.mem_cons_of_mem _ (List.mem_append_right _ (h))
abbrev rm_X11_stripes : Room := { frames := 2, cells := 0, slots := 0, locals := 43 }
set_option maxHeartbeats 4000000 in
set_option maxRecDepth 100000 in
theorem c_X11_stripes (l : Launch) (D : va_G) (cI cB cP : ClassId) (mo : Nat) (m_hard : Nat) (m_blows : Nat) (m_stripes : Nat) (m_kd : Nat) (m_wt : Nat) (m_boys : Nat) (m_learnt : Nat) (m_fond : Nat) (m_qp : Nat) (m_ql : Nat) (m_qr : Nat) (m_codes : Nat) (m_left : Nat) (m_row : Nat) (m_sv : Nat) (m_k_fond : Nat) (m_k_stripes : Nat) (m_k_learnt : Nat) (m_k_boys : Nat) (m_k_qp : Nat) (m_k_ql : Nat) (m_k_qr : Nat) (wI : Int32) (nM : Int32) (sS : Int32) (sF : Int32) (lM : Int32) (sN : Int64) (iK : Int32) (kS : Int32) (kP : Int32) (kH : Int32) (hh : Int64) (sch : Int32) (asks : Int32) (lessons : Nat) (limit : Nat) (np : Nat) (nh : Nat) (size : Nat) (stripes : Nat → Int32) (b_ : Int32) (hls : lessons ≤ 5)  : zPi l D cI cB cP yX11_stripes wsX11_stripes rm_X11_stripes [.ref mo, .int b_] ([(mo, .inr (11, [.int sch, .int (nI lessons), .int (nI limit), .ref m_hard, .ref m_blows, .ref m_stripes, .int (nI np), .ref m_kd, .ref m_wt, .ref m_boys, .ref m_learnt, .ref m_fond, .int (nI nh), .ref m_qp, .ref m_ql, .ref m_qr, .int asks, .int (nI size), .ref m_codes, .int wI, .int nM, .int sS, .int sF, .ref m_left, .int lM, .ref m_row, .long sN, .ref m_sv, .int iK, .int kS, .int kP, .int kH, .ref m_k_fond, .ref m_k_stripes, .ref m_k_learnt, .ref m_k_boys, .ref m_k_qp, .ref m_k_ql, .ref m_k_qr, .long hh])), (m_stripes, .inl (cI, 3, .inl (stripes)))]) (fun r => r = zStripes lessons stripes b_) := by
  refine zPi_of (cc := cX11_stripes) (maxL := 2) (by decide) rfl (Nat.le_of_ble_eq_true rfl) ?_
  intro p e s m args below meth c ls Q hx hb hml hts hown hP hK hN hl hret
  have hown : s.vm.findClass RX11 = some m.cls := hown
  have hl : lv_has ls 2 [(0, .ref mo), (1, .int b_)] := hl
  refine lv_aload_n hx hb dX11_stripes_0 rfl (lv_at hl 0 rfl) ?_
  refine lv_iload_n hx hb dX11_stripes_1 rfl (lv_at hl 1 rfl) ?_
  refine vp_callSi (z_runV (b := mo) (As := [.int b_]) (rest := []) hx hb hml hown hts hK hN hl.1 (c_X11_isBoy l D cI cB cP mo m_hard m_blows m_stripes m_kd m_wt m_boys m_learnt m_fond m_qp m_ql m_qr m_codes m_left m_row m_sv m_k_fond m_k_stripes m_k_learnt m_k_boys m_k_qp m_k_ql m_k_qr wI nM sS sF lM sN iK kS kP kH hh sch asks lessons limit np nh size b_ (by first | assumption | omega)) gX11_stripes_X11_isBoy rfl zd_X11_isBoy rfl (Nat.le_of_ble_eq_true rfl) (Nat.le_of_ble_eq_true rfl) (va_P.sub (ws' := [(mo, .inr (11, [.int sch, .int (nI lessons), .int (nI limit), .ref m_hard, .ref m_blows, .ref m_stripes, .int (nI np), .ref m_kd, .ref m_wt, .ref m_boys, .ref m_learnt, .ref m_fond, .int (nI nh), .ref m_qp, .ref m_ql, .ref m_qr, .int asks, .int (nI size), .ref m_codes, .int wI, .int nM, .int sS, .int sF, .ref m_left, .int lM, .ref m_row, .long sN, .ref m_sv, .int iK, .int kS, .int kP, .int kH, .ref m_k_fond, .ref m_k_stripes, .ref m_k_learnt, .ref m_k_boys, .ref m_k_qp, .ref m_k_ql, .ref m_k_qr, .long hh]))]) hP [0] rfl) (va_recv hK hP (ci := 11) (q0 := 0) rfl rfl) rfl (Nat.le_of_ble_eq_true rfl) dX11_stripes_2 ⟨Nat.zero_le _, Nat.zero_le _⟩) (fun r hr => ?_)
  rcases hr with ⟨rfl, c_1⟩ | ⟨rfl, c_1⟩
  · skip
    refine lv_if_eq (tgt := 17) hx hb dX11_stripes_5 (by decide) (fun c => absurd c (by decide)) (fun _ => ?_)
    obtain ⟨i, hi_, rfl⟩ := z_natlt c_1.2.1 (n := 3) c_1.2.2 (by omega)
    refine lv_aload_n hx hb dX11_stripes_8 rfl (lv_at hl 0 rfl) ?_
    refine va_get (D := D) (ci := 11) (v := .ref m_stripes) (C := RX11) (T := TX11) (N := 40) hx hb hts zi_X11_stripes_X11 hown hK hP 0 rfl rfl 5 (by decide) (hts (.fieldLink RX11 16 "BeatenInsteadModel" "stripesOf" "[I") (List.mem_of_getElem? (i := 1) rfl)) (fun _ h9 => h9) rfl dX11_stripes_9 ?_
    refine lv_iload_n hx hb dX11_stripes_12 rfl (lv_at hl 1 rfl) ?_
    refine va_iald hx hb hK hP 1 0 rfl rfl (vp_in_nI (by omega) (by omega)) dX11_stripes_13 ?_
    refine z_top (y := stripes i) (z_ld (f := stripes) (a := i) (by omega) rfl) ?_
    refine lv_goto (tgt := 19) hx hb dX11_stripes_14 (by decide) ?_
    exact hret _ _ _ dX11_stripes_19 (by rw [zStripes, if_pos c_1, nI_clamp (by omega)])
  · skip
    refine lv_if_eq (tgt := 17) hx hb dX11_stripes_5 (by decide) (fun _ => ?_) (fun c => absurd c (by decide))
    refine lv_bipush (v := (-101)) hx hb dX11_stripes_17 (by decide) ?_
    exact hret _ _ _ dX11_stripes_19 (by rw [zStripes, if_neg c_1])

abbrev rm_X11_feels : Room := { frames := 0, cells := 0, slots := 0, locals := 0 }
set_option maxHeartbeats 4000000 in
set_option maxRecDepth 100000 in
theorem c_X11_feels (l : Launch) (D : va_G) (cI cB cP : ClassId) (k : Nat) (f : Nat) (hk : k < 5) (hf : f ≤ 9)  : zPi l D cI cB cP yX11_feels wsX11_feels rm_X11_feels [.int (nI k), .int (nI f)] ([]) (fun r => r = nI (zFeels k f)) := by
  refine zPi_of (cc := cX11_feels) (maxL := 3) (by decide) rfl (Nat.le_of_ble_eq_true rfl) ?_
  intro p e s m args below meth c ls Q hx hb hml hts hown hP hK hN hl hret
  have hown : s.vm.findClass RX11 = some m.cls := hown
  have hl : lv_has ls 3 [(0, .int (nI k)), (1, .int (nI f))] := hl
  refine lv_iload_n hx hb dX11_feels_0 rfl (lv_at hl 1 rfl) ?_
  refine lv_iconst (v := 5) hx hb dX11_feels_1 (by decide) ?_
  refine lv_icmp_ge (tgt := 9) hx hb dX11_feels_2 (by decide) (fun c_1 => ?_) (fun c_1 => ?_)
  · skip
    have c_1 : 5 ≤ f := (nI_leI (a := 5) (b := f) (by omega) (by omega)).mp c_1
    refine lv_iload_n hx hb dX11_feels_9 rfl (lv_at hl 1 rfl) ?_
    refine lv_istore_n (lv' := [(2, .int (nI f)), (0, .int (nI k)), (1, .int (nI f))]) hx hb dX11_feels_10 rfl hl (by decide) rfl (fun ls hl => ?_)
    rcases z_k5 hk with rfl | rfl | rfl | rfl | rfl
    · skip
      refine lv_iload_n hx hb dX11_feels_11 rfl (lv_at hl 1 rfl) ?_
      refine lv_tableOut (tgt := 59) hx hb dX11_feels_12 (by decide +kernel) (by decide) ?_
      refine lv_iload_n hx hb dX11_feels_59 rfl (lv_at hl 2 rfl) ?_
      exact hret _ _ _ dX11_feels_60 (by have e : zFeels 0 f = f := by { simp [zFeels] <;> try omega }; rw [e]; first | done | rfl)
    · skip
      refine lv_iload_n hx hb dX11_feels_11 rfl (lv_at hl 1 rfl) ?_
      refine lv_tableIn (tgt := 44) (off := 32) hx hb dX11_feels_12 (by decide +kernel) (by decide +kernel) (by decide +kernel) (by decide) ?_
      refine lv_iload_n hx hb dX11_feels_44 rfl (lv_at hl 0 rfl) ?_
      exact hret _ _ _ dX11_feels_45 (by have e : zFeels 1 f = f := by { simp [zFeels] <;> try omega }; rw [e]; first | done | rfl)
    · skip
      refine lv_iload_n hx hb dX11_feels_11 rfl (lv_at hl 1 rfl) ?_
      refine lv_tableIn (tgt := 46) (off := 34) hx hb dX11_feels_12 (by decide +kernel) (by decide +kernel) (by decide +kernel) (by decide) ?_
      refine lv_bipush (v := (9)) hx hb dX11_feels_46 (by decide) ?_
      refine lv_iload_n hx hb dX11_feels_48 rfl (lv_at hl 2 rfl) ?_
      refine lv_isub hx hb dX11_feels_49 ?_
      refine z_top (show (9 - (nI f)) = nI (9 - f) from pk_sub (a := 9) (b := f) (by omega)) ?_
      exact hret _ _ _ dX11_feels_50 (by have e : zFeels 2 f = 9 - f := by { simp [zFeels] <;> try omega }; rw [e]; first | done | rfl)
    · skip
      refine lv_iload_n hx hb dX11_feels_11 rfl (lv_at hl 1 rfl) ?_
      refine lv_tableIn (tgt := 51) (off := 39) hx hb dX11_feels_12 (by decide +kernel) (by decide +kernel) (by decide +kernel) (by decide) ?_
      refine lv_iload_n hx hb dX11_feels_51 rfl (lv_at hl 2 rfl) ?_
      refine lv_iconst (v := 2) hx hb dX11_feels_52 (by decide) ?_
      refine lv_idiv hx hb dX11_feels_53 (by decide) ?_
      refine z_top (show ((nI f) / 2) = nI (f / 2) from pk_div (a := f) (d := 2) (by omega) (by omega) (by omega)) ?_
      exact hret _ _ _ dX11_feels_54 (by have e : zFeels 3 f = f / 2 := by { simp [zFeels] <;> try omega }; rw [e]; first | done | rfl)
    · skip
      refine lv_iload_n hx hb dX11_feels_11 rfl (lv_at hl 1 rfl) ?_
      refine lv_tableIn (tgt := 55) (off := 43) hx hb dX11_feels_12 (by decide +kernel) (by decide +kernel) (by decide +kernel) (by decide) ?_
      refine lv_iload_n hx hb dX11_feels_55 rfl (lv_at hl 0 rfl) ?_
      refine lv_iconst (v := 2) hx hb dX11_feels_56 (by decide) ?_
      refine lv_iadd hx hb dX11_feels_57 ?_
      refine z_top (show ((nI f) + 2) = nI (f + 2) from nI_add f 2) ?_
      exact hret _ _ _ dX11_feels_58 (by have e : zFeels 4 f = f + 2 := by { simp [zFeels] <;> try omega }; rw [e]; first | done | rfl)
  · skip
    have c_1 : ¬ (5 ≤ f) := (not_congr (nI_leI (a := 5) (b := f) (by omega) (by omega))).mp c_1
    refine lv_iconst (v := 0) hx hb dX11_feels_5 (by decide) ?_
    refine lv_goto (tgt := 10) hx hb dX11_feels_6 (by decide) ?_
    refine lv_istore_n (lv' := [(2, .int 0), (0, .int (nI k)), (1, .int (nI f))]) hx hb dX11_feels_10 rfl hl (by decide) rfl (fun ls hl => ?_)
    rcases z_k5 hk with rfl | rfl | rfl | rfl | rfl
    · skip
      refine lv_iload_n hx hb dX11_feels_11 rfl (lv_at hl 1 rfl) ?_
      refine lv_tableOut (tgt := 59) hx hb dX11_feels_12 (by decide +kernel) (by decide) ?_
      refine lv_iload_n hx hb dX11_feels_59 rfl (lv_at hl 2 rfl) ?_
      exact hret _ _ _ dX11_feels_60 (by have e : zFeels 0 f = f := by { simp [zFeels] <;> try omega }; rw [e]; first | done | rfl)
    · skip
      refine lv_iload_n hx hb dX11_feels_11 rfl (lv_at hl 1 rfl) ?_
      refine lv_tableIn (tgt := 44) (off := 32) hx hb dX11_feels_12 (by decide +kernel) (by decide +kernel) (by decide +kernel) (by decide) ?_
      refine lv_iload_n hx hb dX11_feels_44 rfl (lv_at hl 0 rfl) ?_
      exact hret _ _ _ dX11_feels_45 (by have e : zFeels 1 f = 0 := by { simp [zFeels] <;> try omega }; rw [e]; first | done | rfl)
    · skip
      refine lv_iload_n hx hb dX11_feels_11 rfl (lv_at hl 1 rfl) ?_
      refine lv_tableIn (tgt := 46) (off := 34) hx hb dX11_feels_12 (by decide +kernel) (by decide +kernel) (by decide +kernel) (by decide) ?_
      refine lv_bipush (v := (9)) hx hb dX11_feels_46 (by decide) ?_
      refine lv_iload_n hx hb dX11_feels_48 rfl (lv_at hl 2 rfl) ?_
      refine lv_isub hx hb dX11_feels_49 ?_
      refine z_top (show (9 - (nI f)) = nI (9 - f) from pk_sub (a := 9) (b := f) (by omega)) ?_
      exact hret _ _ _ dX11_feels_50 (by have e : zFeels 2 f = 9 - f := by { simp [zFeels] <;> try omega }; rw [e]; first | done | rfl)
    · skip
      refine lv_iload_n hx hb dX11_feels_11 rfl (lv_at hl 1 rfl) ?_
      refine lv_tableIn (tgt := 51) (off := 39) hx hb dX11_feels_12 (by decide +kernel) (by decide +kernel) (by decide +kernel) (by decide) ?_
      refine lv_iload_n hx hb dX11_feels_51 rfl (lv_at hl 2 rfl) ?_
      refine lv_iconst (v := 2) hx hb dX11_feels_52 (by decide) ?_
      refine lv_idiv hx hb dX11_feels_53 (by decide) ?_
      refine z_top (show ((nI f) / 2) = nI (f / 2) from pk_div (a := f) (d := 2) (by omega) (by omega) (by omega)) ?_
      exact hret _ _ _ dX11_feels_54 (by have e : zFeels 3 f = f / 2 := by { simp [zFeels] <;> try omega }; rw [e]; first | done | rfl)
    · skip
      refine lv_iload_n hx hb dX11_feels_11 rfl (lv_at hl 1 rfl) ?_
      refine lv_tableIn (tgt := 55) (off := 43) hx hb dX11_feels_12 (by decide +kernel) (by decide +kernel) (by decide +kernel) (by decide) ?_
      refine lv_iload_n hx hb dX11_feels_55 rfl (lv_at hl 0 rfl) ?_
      refine lv_iconst (v := 2) hx hb dX11_feels_56 (by decide) ?_
      refine lv_iadd hx hb dX11_feels_57 ?_
      refine z_top (show (0 + 2) = nI (0 + 2) from nI_add 0 2) ?_
      exact hret _ _ _ dX11_feels_58 (by have e : zFeels 4 f = 0 + 2 := by { simp [zFeels] <;> try omega }; rw [e]; first | done | rfl)

theorem zi_X11_feelsNow_X11 : ∀ w ∈ wsX110, w ∈ wsX11_feelsNow := fun _ h => List.mem_cons_of_mem _ (List.mem_append_right _ (h))
abbrev rm_X11_feelsNow : Room := { frames := 1, cells := 0, slots := 0, locals := 22 }
set_option maxHeartbeats 4000000 in
set_option maxRecDepth 100000 in
theorem c_X11_feelsNow (l : Launch) (D : va_G) (cI cB cP : ClassId) (mo : Nat) (m_hard : Nat) (m_blows : Nat) (m_stripes : Nat) (m_kd : Nat) (m_wt : Nat) (m_boys : Nat) (m_learnt : Nat) (m_fond : Nat) (m_qp : Nat) (m_ql : Nat) (m_qr : Nat) (m_codes : Nat) (m_left : Nat) (m_row : Nat) (m_sv : Nat) (m_k_fond : Nat) (m_k_stripes : Nat) (m_k_learnt : Nat) (m_k_boys : Nat) (m_k_qp : Nat) (m_k_ql : Nat) (m_k_qr : Nat) (wI : Int32) (nM : Int32) (sS : Int32) (sF : Int32) (lM : Int32) (sN : Int64) (iK : Int32) (kS : Int32) (kP : Int32) (kH : Int32) (hh : Int64) (sch : Int32) (asks : Int32) (lessons : Nat) (limit : Nat) (np : Nat) (nh : Nat) (size : Nat) (kd : Nat → Nat) (boys : Nat → Nat) (fond : Nat → Nat) (p_ : Nat) (hp_ : p_ < 3) (hkd : ∀ i, kd i < 5) (hby : ∀ i, boys i < 3) (hfo : ∀ i, fond i ≤ 9)  : zPi l D cI cB cP yX11_feelsNow wsX11_feelsNow rm_X11_feelsNow [.ref mo, .int (nI p_)] ([(mo, .inr (11, [.int sch, .int (nI lessons), .int (nI limit), .ref m_hard, .ref m_blows, .ref m_stripes, .int (nI np), .ref m_kd, .ref m_wt, .ref m_boys, .ref m_learnt, .ref m_fond, .int (nI nh), .ref m_qp, .ref m_ql, .ref m_qr, .int asks, .int (nI size), .ref m_codes, .int wI, .int nM, .int sS, .int sF, .ref m_left, .int lM, .ref m_row, .long sN, .ref m_sv, .int iK, .int kS, .int kP, .int kH, .ref m_k_fond, .ref m_k_stripes, .ref m_k_learnt, .ref m_k_boys, .ref m_k_qp, .ref m_k_ql, .ref m_k_qr, .long hh])), (m_kd, .inl (cI, 3, .inl (fun q_ => nI (kd q_)))), (m_boys, .inl (cI, 3, .inl (fun q_ => nI (boys q_)))), (m_fond, .inl (cI, 9, .inl (fun q_ => nI (fond q_))))]) (fun r => r = nI (zFeels (kd p_) (fond (p_ * 3 + boys p_)))) := by
  refine zPi_of (cc := cX11_feelsNow) (maxL := 2) (by decide) rfl (Nat.le_of_ble_eq_true rfl) ?_
  intro p e s m args below meth c ls Q hx hb hml hts hown hP hK hN hl hret
  have hown : s.vm.findClass RX11 = some m.cls := hown
  have hl : lv_has ls 2 [(0, .ref mo), (1, .int (nI p_))] := hl
  have hbp := hby p_
  refine lv_aload_n hx hb dX11_feelsNow_0 rfl (lv_at hl 0 rfl) ?_
  refine va_get (D := D) (ci := 11) (v := .ref m_kd) (C := RX11) (T := TX11) (N := 40) hx hb hts zi_X11_feelsNow_X11 hown hK hP 0 rfl rfl 7 (by decide) (hts (.fieldLink RX11 19 "BeatenInsteadModel" "kindOf" "[I") (List.mem_of_getElem? (i := 1) rfl)) (fun _ h9 => h9) rfl dX11_feelsNow_1 ?_
  refine lv_iload_n hx hb dX11_feelsNow_4 rfl (lv_at hl 1 rfl) ?_
  refine va_iald hx hb hK hP 1 0 rfl rfl (vp_in_nI (by omega) (by omega)) dX11_feelsNow_5 ?_
  refine z_top (y := nI (kd p_)) (z_ld (f := fun q_ => nI (kd q_)) (a := p_) (by omega) rfl) ?_
  refine lv_aload_n hx hb dX11_feelsNow_6 rfl (lv_at hl 0 rfl) ?_
  refine va_get (D := D) (ci := 11) (v := .ref m_fond) (C := RX11) (T := TX11) (N := 40) hx hb hts zi_X11_feelsNow_X11 hown hK hP 0 rfl rfl 11 (by decide) (hts (.fieldLink RX11 31 "BeatenInsteadModel" "fondOf" "[I") (List.mem_of_getElem? (i := 2) rfl)) (fun _ h9 => h9) rfl dX11_feelsNow_7 ?_
  refine lv_iconst (v := 3) hx hb dX11_feelsNow_10 (by decide) ?_
  refine lv_iload_n hx hb dX11_feelsNow_11 rfl (lv_at hl 1 rfl) ?_
  refine lv_imul hx hb dX11_feelsNow_12 ?_
  refine z_top (show (3 * (nI p_)) = nI (p_ * 3) from (pk_mul 3 p_).trans (by rw [Nat.mul_comm])) ?_
  refine lv_aload_n hx hb dX11_feelsNow_13 rfl (lv_at hl 0 rfl) ?_
  refine va_get (D := D) (ci := 11) (v := .ref m_boys) (C := RX11) (T := TX11) (N := 40) hx hb hts zi_X11_feelsNow_X11 hown hK hP 0 rfl rfl 9 (by decide) (hts (.fieldLink RX11 25 "BeatenInsteadModel" "boyOf" "[I") (List.mem_of_getElem? (i := 3) rfl)) (fun _ h9 => h9) rfl dX11_feelsNow_14 ?_
  refine lv_iload_n hx hb dX11_feelsNow_17 rfl (lv_at hl 1 rfl) ?_
  refine va_iald hx hb hK hP 2 0 rfl rfl (vp_in_nI (by omega) (by omega)) dX11_feelsNow_18 ?_
  refine z_top (y := nI (boys p_)) (z_ld (f := fun q_ => nI (boys q_)) (a := p_) (by omega) rfl) ?_
  refine lv_iadd hx hb dX11_feelsNow_19 ?_
  refine z_top (show ((nI (p_ * 3)) + (nI (boys p_))) = nI (p_ * 3 + boys p_) from nI_add (p_ * 3) (boys p_)) ?_
  refine va_iald hx hb hK hP 3 0 rfl rfl (vp_in_nI (by omega) (by omega)) dX11_feelsNow_20 ?_
  refine z_top (y := nI (fond (p_ * 3 + boys p_))) (z_ld (f := fun q_ => nI (fond q_)) (a := p_ * 3 + boys p_) (by omega) rfl) ?_
  refine vp_callSi (z_runS (As := [.int (nI (kd p_)), .int (nI (fond (p_ * 3 + boys p_)))]) (rest := []) hx hb hml hown hts hK hN hl.1 (c_X11_feels l D cI cB cP (kd p_) (fond (p_ * 3 + boys p_)) (hkd _) (hfo _)) gX11_feelsNow_X11_feels rfl zd_X11_feels rfl (Nat.le_of_ble_eq_true rfl) (Nat.le_of_ble_eq_true rfl) z_p0 rfl (Nat.le_of_ble_eq_true rfl) dX11_feelsNow_21 ⟨Nat.zero_le _, Nat.zero_le _⟩) (fun r hr => ?_)
  subst hr
  exact hret _ _ _ dX11_feelsNow_24 rfl

theorem zi_X11_tenthsBy_X11 : ∀ w ∈ wsX110, w ∈ wsX11_tenthsBy := fun _ h => List.mem_cons_of_mem _ (List.mem_append_right _ (h))
abbrev rm_X11_tenthsBy : Room := { frames := 1, cells := 0, slots := 0, locals := 22 }
set_option maxHeartbeats 4000000 in
set_option maxRecDepth 100000 in
theorem c_X11_tenthsBy (l : Launch) (D : va_G) (cI cB cP : ClassId) (mo : Nat) (m_hard : Nat) (m_blows : Nat) (m_stripes : Nat) (m_kd : Nat) (m_wt : Nat) (m_boys : Nat) (m_learnt : Nat) (m_fond : Nat) (m_qp : Nat) (m_ql : Nat) (m_qr : Nat) (m_codes : Nat) (m_left : Nat) (m_row : Nat) (m_sv : Nat) (m_k_fond : Nat) (m_k_stripes : Nat) (m_k_learnt : Nat) (m_k_boys : Nat) (m_k_qp : Nat) (m_k_ql : Nat) (m_k_qr : Nat) (wI : Int32) (nM : Int32) (sS : Int32) (sF : Int32) (lM : Int32) (sN : Int64) (iK : Int32) (kS : Int32) (kP : Int32) (kH : Int32) (hh : Int64) (sch : Int32) (asks : Int32) (lessons : Nat) (limit : Nat) (np : Nat) (nh : Nat) (size : Nat) (hard : Nat → Nat) (kd : Nat → Nat) (wt : Nat → Nat) (p_ : Nat) (k : Nat) (f : Nat) (hp_ : p_ < 3) (hk : k < 5) (hf : f ≤ 9) (hkd : ∀ i, kd i < 5) (hwt : ∀ i, wt i ≤ 9) (hha : ∀ i, hard i ≤ 9)  : zPi l D cI cB cP yX11_tenthsBy wsX11_tenthsBy rm_X11_tenthsBy [.ref mo, .int (nI p_), .int (nI k), .int (nI f)] ([(mo, .inr (11, [.int sch, .int (nI lessons), .int (nI limit), .ref m_hard, .ref m_blows, .ref m_stripes, .int (nI np), .ref m_kd, .ref m_wt, .ref m_boys, .ref m_learnt, .ref m_fond, .int (nI nh), .ref m_qp, .ref m_ql, .ref m_qr, .int asks, .int (nI size), .ref m_codes, .int wI, .int nM, .int sS, .int sF, .ref m_left, .int lM, .ref m_row, .long sN, .ref m_sv, .int iK, .int kS, .int kP, .int kH, .ref m_k_fond, .ref m_k_stripes, .ref m_k_learnt, .ref m_k_boys, .ref m_k_qp, .ref m_k_ql, .ref m_k_qr, .long hh])), (m_hard, .inl (cI, 5, .inl (fun q_ => nI (hard q_)))), (m_kd, .inl (cI, 3, .inl (fun q_ => nI (kd q_)))), (m_wt, .inl (cI, 3, .inl (fun q_ => nI (wt q_))))]) (fun r => r = nI (zTen (wt p_) (kd p_) f (hard k))) := by
  refine zPi_of (cc := cX11_tenthsBy) (maxL := 5) (by decide) rfl (Nat.le_of_ble_eq_true rfl) ?_
  intro p e s m args below meth c ls Q hx hb hml hts hown hP hK hN hl hret
  have hown : s.vm.findClass RX11 = some m.cls := hown
  have hl : lv_has ls 5 [(0, .ref mo), (1, .int (nI p_)), (2, .int (nI k)), (3, .int (nI f))] := hl
  refine lv_aload_n hx hb dX11_tenthsBy_0 rfl (lv_at hl 0 rfl) ?_
  refine va_get (D := D) (ci := 11) (v := .ref m_wt) (C := RX11) (T := TX11) (N := 40) hx hb hts zi_X11_tenthsBy_X11 hown hK hP 0 rfl rfl 8 (by decide) (hts (.fieldLink RX11 22 "BeatenInsteadModel" "witOf" "[I") (List.mem_of_getElem? (i := 1) rfl)) (fun _ h9 => h9) rfl dX11_tenthsBy_1 ?_
  refine lv_iload_n hx hb dX11_tenthsBy_4 rfl (lv_at hl 1 rfl) ?_
  refine va_iald hx hb hK hP 3 0 rfl rfl (vp_in_nI (by omega) (by omega)) dX11_tenthsBy_5 ?_
  refine z_top (y := nI (wt p_)) (z_ld (f := fun q_ => nI (wt q_)) (a := p_) (by omega) rfl) ?_
  refine lv_aload_n hx hb dX11_tenthsBy_6 rfl (lv_at hl 0 rfl) ?_
  refine va_get (D := D) (ci := 11) (v := .ref m_kd) (C := RX11) (T := TX11) (N := 40) hx hb hts zi_X11_tenthsBy_X11 hown hK hP 0 rfl rfl 7 (by decide) (hts (.fieldLink RX11 19 "BeatenInsteadModel" "kindOf" "[I") (List.mem_of_getElem? (i := 2) rfl)) (fun _ h9 => h9) rfl dX11_tenthsBy_7 ?_
  refine lv_iload_n hx hb dX11_tenthsBy_10 rfl (lv_at hl 1 rfl) ?_
  refine va_iald hx hb hK hP 2 0 rfl rfl (vp_in_nI (by omega) (by omega)) dX11_tenthsBy_11 ?_
  refine z_top (y := nI (kd p_)) (z_ld (f := fun q_ => nI (kd q_)) (a := p_) (by omega) rfl) ?_
  refine lv_iload_n hx hb dX11_tenthsBy_12 rfl (lv_at hl 3 rfl) ?_
  refine vp_callSi (z_runS (As := [.int (nI (kd p_)), .int (nI f)]) (rest := [.int (nI (wt p_))]) hx hb hml hown hts hK hN hl.1 (c_X11_feels l D cI cB cP (kd p_) f (hkd _) (hf)) gX11_tenthsBy_X11_feels rfl zd_X11_feels rfl (Nat.le_of_ble_eq_true rfl) (Nat.le_of_ble_eq_true rfl) z_p0 rfl (Nat.le_of_ble_eq_true rfl) dX11_tenthsBy_13 ⟨Nat.zero_le _, Nat.zero_le _⟩) (fun r hr => ?_)
  subst hr
  have hfe := zFeels_le (k := kd p_) hf
  have hwp := hwt p_
  have hhk := hha k
  refine lv_iadd hx hb dX11_tenthsBy_16 ?_
  refine z_top (show ((nI (wt p_)) + (nI (zFeels (kd p_) f))) = nI (wt p_ + zFeels (kd p_) f) from nI_add (wt p_) (zFeels (kd p_) f)) ?_
  refine lv_aload_n hx hb dX11_tenthsBy_17 rfl (lv_at hl 0 rfl) ?_
  refine va_get (D := D) (ci := 11) (v := .ref m_hard) (C := RX11) (T := TX11) (N := 40) hx hb hts zi_X11_tenthsBy_X11 hown hK hP 0 rfl rfl 3 (by decide) (hts (.fieldLink RX11 7 "BeatenInsteadModel" "hardOf" "[I") (List.mem_of_getElem? (i := 3) rfl)) (fun _ h9 => h9) rfl dX11_tenthsBy_18 ?_
  refine lv_iload_n hx hb dX11_tenthsBy_21 rfl (lv_at hl 2 rfl) ?_
  refine va_iald hx hb hK hP 1 0 rfl rfl (vp_in_nI (by omega) (by omega)) dX11_tenthsBy_22 ?_
  refine z_top (y := nI (hard k)) (z_ld (f := fun q_ => nI (hard q_)) (a := k) (by omega) rfl) ?_
  refine lv_isub hx hb dX11_tenthsBy_23 ?_
  refine lv_topi (fun v_ ev_ => ?_)
  refine lv_istore (lv' := [(4, .int v_), (0, .ref mo), (1, .int (nI p_)), (2, .int (nI k)), (3, .int (nI f))]) hx hb dX11_tenthsBy_24 hl (by decide) rfl (fun ls hl => ?_)
  refine lv_iload hx hb dX11_tenthsBy_26 (lv_at hl 0 rfl) ?_
  refine lv_if_ge (tgt := 35) hx hb dX11_tenthsBy_28 (by decide) (fun c_1 => ?_) (fun c_1 => ?_)
  · skip
    refine lv_iload hx hb dX11_tenthsBy_35 (lv_at hl 0 rfl) ?_
    refine lv_bipush (v := (10)) hx hb dX11_tenthsBy_37 (by decide) ?_
    refine lv_icmp_le (tgt := 47) hx hb dX11_tenthsBy_39 (by decide) (fun c_2 => ?_) (fun c_2 => ?_)
    · skip
      refine lv_iload hx hb dX11_tenthsBy_47 (lv_at hl 0 rfl) ?_
      exact hret _ _ _ dX11_tenthsBy_49 (by rw [zTen, ev_]; exact z_cl2 (by omega) (by omega) (by rw [← ev_]; exact c_1) (by rw [← ev_]; exact c_2))
    · skip
      refine lv_bipush (v := (10)) hx hb dX11_tenthsBy_42 (by decide) ?_
      refine lv_goto (tgt := 49) hx hb dX11_tenthsBy_44 (by decide) ?_
      exact hret _ _ _ dX11_tenthsBy_49 (by rw [zTen]; exact z_cl1 (by omega) (by omega) (by rw [← ev_]; exact Int32.not_le.mp c_2))
  · skip
    refine lv_iconst (v := 0) hx hb dX11_tenthsBy_31 (by decide) ?_
    refine lv_goto (tgt := 49) hx hb dX11_tenthsBy_32 (by decide) ?_
    exact hret _ _ _ dX11_tenthsBy_49 (by rw [zTen]; exact z_cl0 (by omega) (by omega) (by rw [← ev_]; exact Int32.not_le.mp c_1))

theorem zi_X11_tenthsNow_X11 : ∀ w ∈ wsX110, w ∈ wsX11_tenthsNow := fun _ h => List.mem_cons_of_mem _ (List.mem_append_right _ (h))
abbrev rm_X11_tenthsNow : Room := { frames := 2, cells := 0, slots := 0, locals := 46 }
set_option maxHeartbeats 4000000 in
set_option maxRecDepth 100000 in
theorem c_X11_tenthsNow (l : Launch) (D : va_G) (cI cB cP : ClassId) (mo : Nat) (m_hard : Nat) (m_blows : Nat) (m_stripes : Nat) (m_kd : Nat) (m_wt : Nat) (m_boys : Nat) (m_learnt : Nat) (m_fond : Nat) (m_qp : Nat) (m_ql : Nat) (m_qr : Nat) (m_codes : Nat) (m_left : Nat) (m_row : Nat) (m_sv : Nat) (m_k_fond : Nat) (m_k_stripes : Nat) (m_k_learnt : Nat) (m_k_boys : Nat) (m_k_qp : Nat) (m_k_ql : Nat) (m_k_qr : Nat) (wI : Int32) (nM : Int32) (sS : Int32) (sF : Int32) (lM : Int32) (sN : Int64) (iK : Int32) (kS : Int32) (kP : Int32) (kH : Int32) (hh : Int64) (sch : Int32) (asks : Int32) (lessons : Nat) (limit : Nat) (np : Nat) (nh : Nat) (size : Nat) (hard : Nat → Nat) (kd : Nat → Nat) (wt : Nat → Nat) (boys : Nat → Nat) (fond : Nat → Nat) (p_ : Nat) (k : Nat) (hp_ : p_ < 3) (hk : k < 5) (hkd : ∀ i, kd i < 5) (hwt : ∀ i, wt i ≤ 9) (hha : ∀ i, hard i ≤ 9) (hby : ∀ i, boys i < 3) (hfo : ∀ i, fond i ≤ 9)  : zPi l D cI cB cP yX11_tenthsNow wsX11_tenthsNow rm_X11_tenthsNow [.ref mo, .int (nI p_), .int (nI k)] ([(mo, .inr (11, [.int sch, .int (nI lessons), .int (nI limit), .ref m_hard, .ref m_blows, .ref m_stripes, .int (nI np), .ref m_kd, .ref m_wt, .ref m_boys, .ref m_learnt, .ref m_fond, .int (nI nh), .ref m_qp, .ref m_ql, .ref m_qr, .int asks, .int (nI size), .ref m_codes, .int wI, .int nM, .int sS, .int sF, .ref m_left, .int lM, .ref m_row, .long sN, .ref m_sv, .int iK, .int kS, .int kP, .int kH, .ref m_k_fond, .ref m_k_stripes, .ref m_k_learnt, .ref m_k_boys, .ref m_k_qp, .ref m_k_ql, .ref m_k_qr, .long hh])), (m_hard, .inl (cI, 5, .inl (fun q_ => nI (hard q_)))), (m_kd, .inl (cI, 3, .inl (fun q_ => nI (kd q_)))), (m_wt, .inl (cI, 3, .inl (fun q_ => nI (wt q_)))), (m_boys, .inl (cI, 3, .inl (fun q_ => nI (boys q_)))), (m_fond, .inl (cI, 9, .inl (fun q_ => nI (fond q_))))]) (fun r => r = nI (zTen (wt p_) (kd p_) (fond (p_ * 3 + boys p_)) (hard k))) := by
  refine zPi_of (cc := cX11_tenthsNow) (maxL := 3) (by decide) rfl (Nat.le_of_ble_eq_true rfl) ?_
  intro p e s m args below meth c ls Q hx hb hml hts hown hP hK hN hl hret
  have hown : s.vm.findClass RX11 = some m.cls := hown
  have hl : lv_has ls 3 [(0, .ref mo), (1, .int (nI p_)), (2, .int (nI k))] := hl
  have hbp := hby p_
  refine lv_aload_n hx hb dX11_tenthsNow_0 rfl (lv_at hl 0 rfl) ?_
  refine lv_iload_n hx hb dX11_tenthsNow_1 rfl (lv_at hl 1 rfl) ?_
  refine lv_iload_n hx hb dX11_tenthsNow_2 rfl (lv_at hl 2 rfl) ?_
  refine lv_aload_n hx hb dX11_tenthsNow_3 rfl (lv_at hl 0 rfl) ?_
  refine va_get (D := D) (ci := 11) (v := .ref m_fond) (C := RX11) (T := TX11) (N := 40) hx hb hts zi_X11_tenthsNow_X11 hown hK hP 0 rfl rfl 11 (by decide) (hts (.fieldLink RX11 31 "BeatenInsteadModel" "fondOf" "[I") (List.mem_of_getElem? (i := 1) rfl)) (fun _ h9 => h9) rfl dX11_tenthsNow_4 ?_
  refine lv_iconst (v := 3) hx hb dX11_tenthsNow_7 (by decide) ?_
  refine lv_iload_n hx hb dX11_tenthsNow_8 rfl (lv_at hl 1 rfl) ?_
  refine lv_imul hx hb dX11_tenthsNow_9 ?_
  refine z_top (show (3 * (nI p_)) = nI (p_ * 3) from (pk_mul 3 p_).trans (by rw [Nat.mul_comm])) ?_
  refine lv_aload_n hx hb dX11_tenthsNow_10 rfl (lv_at hl 0 rfl) ?_
  refine va_get (D := D) (ci := 11) (v := .ref m_boys) (C := RX11) (T := TX11) (N := 40) hx hb hts zi_X11_tenthsNow_X11 hown hK hP 0 rfl rfl 9 (by decide) (hts (.fieldLink RX11 25 "BeatenInsteadModel" "boyOf" "[I") (List.mem_of_getElem? (i := 2) rfl)) (fun _ h9 => h9) rfl dX11_tenthsNow_11 ?_
  refine lv_iload_n hx hb dX11_tenthsNow_14 rfl (lv_at hl 1 rfl) ?_
  refine va_iald hx hb hK hP 4 0 rfl rfl (vp_in_nI (by omega) (by omega)) dX11_tenthsNow_15 ?_
  refine z_top (y := nI (boys p_)) (z_ld (f := fun q_ => nI (boys q_)) (a := p_) (by omega) rfl) ?_
  refine lv_iadd hx hb dX11_tenthsNow_16 ?_
  refine z_top (show ((nI (p_ * 3)) + (nI (boys p_))) = nI (p_ * 3 + boys p_) from nI_add (p_ * 3) (boys p_)) ?_
  refine va_iald hx hb hK hP 5 0 rfl rfl (vp_in_nI (by omega) (by omega)) dX11_tenthsNow_17 ?_
  refine z_top (y := nI (fond (p_ * 3 + boys p_))) (z_ld (f := fun q_ => nI (fond q_)) (a := p_ * 3 + boys p_) (by omega) rfl) ?_
  refine vp_callSi (z_runV (b := mo) (As := [.int (nI p_), .int (nI k), .int (nI (fond (p_ * 3 + boys p_)))]) (rest := []) hx hb hml hown hts hK hN hl.1 (c_X11_tenthsBy l D cI cB cP mo m_hard m_blows m_stripes m_kd m_wt m_boys m_learnt m_fond m_qp m_ql m_qr m_codes m_left m_row m_sv m_k_fond m_k_stripes m_k_learnt m_k_boys m_k_qp m_k_ql m_k_qr wI nM sS sF lM sN iK kS kP kH hh sch asks lessons limit np nh size hard kd wt p_ k (fond (p_ * 3 + boys p_)) (hp_) (hk) (hfo _) (hkd) (hwt) (hha)) gX11_tenthsNow_X11_tenthsBy rfl zd_X11_tenthsBy rfl (Nat.le_of_ble_eq_true rfl) (Nat.le_of_ble_eq_true rfl) (va_P.sub (ws' := [(mo, .inr (11, [.int sch, .int (nI lessons), .int (nI limit), .ref m_hard, .ref m_blows, .ref m_stripes, .int (nI np), .ref m_kd, .ref m_wt, .ref m_boys, .ref m_learnt, .ref m_fond, .int (nI nh), .ref m_qp, .ref m_ql, .ref m_qr, .int asks, .int (nI size), .ref m_codes, .int wI, .int nM, .int sS, .int sF, .ref m_left, .int lM, .ref m_row, .long sN, .ref m_sv, .int iK, .int kS, .int kP, .int kH, .ref m_k_fond, .ref m_k_stripes, .ref m_k_learnt, .ref m_k_boys, .ref m_k_qp, .ref m_k_ql, .ref m_k_qr, .long hh])), (m_hard, .inl (cI, 5, .inl (fun q_ => nI (hard q_)))), (m_kd, .inl (cI, 3, .inl (fun q_ => nI (kd q_)))), (m_wt, .inl (cI, 3, .inl (fun q_ => nI (wt q_))))]) hP [0, 1, 2, 3] rfl) (va_recv hK hP (ci := 11) (q0 := 0) rfl rfl) rfl (Nat.le_of_ble_eq_true rfl) dX11_tenthsNow_18 ⟨Nat.zero_le _, Nat.zero_le _⟩) (fun r hr => ?_)
  subst hr
  exact hret _ _ _ dX11_tenthsNow_21 rfl
