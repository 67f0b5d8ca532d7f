abbrev rm_X10_at : Room := { frames := 0, cells := 0, slots := 0, locals := 0 }
set_option maxHeartbeats 4000000 in
set_option maxRecDepth 100000 in
theorem c_X10_at (l : Launch) (D : va_G) (cI cB cP : ClassId) (a0 : Nat) (n : Nat) (f : Nat → Int32) (i : Int32) (hn : n < 2 ^ 31)  : zPi l D cI cB cP yX10_at wsX10_at rm_X10_at [.ref a0, .int i] ([(a0, .inl (cI, n, .inl (f)))]) (fun r => r = zAt f n i) := by
  refine zPi_of (cc := cX10_at) (maxL := 2) (by decide) rfl (Nat.le_of_ble_eq_true rfl) ?_
  intro p e s m args below meth c ls Q hx hb hml hts hown hP hK hN hl hret
  have hown : s.vm.findClass RX10 = some m.cls := hown
  have hl : lv_has ls 2 [(0, .ref a0), (1, .int i)] := hl
  refine lv_iload_n hx hb dX10_at_0 rfl (lv_at hl 1 rfl) ?_
  refine lv_if_lt (tgt := 16) hx hb dX10_at_1 (by decide) (fun c_1 => ?_) (fun c_1 => ?_)
  · skip
    refine lv_iconst (v := 0) hx hb dX10_at_16 (by decide) ?_
    exact hret _ _ _ dX10_at_17 (by simp [zAt, *])
  · skip
    refine lv_iload_n hx hb dX10_at_4 rfl (lv_at hl 1 rfl) ?_
    refine lv_aload_n hx hb dX10_at_5 rfl (lv_at hl 0 rfl) ?_
    refine va_alen hx hb hK hP 0 0 rfl rfl (v := nI n) rfl dX10_at_6 ?_
    refine lv_icmp_ge (tgt := 16) hx hb dX10_at_7 (by decide) (fun c_2 => ?_) (fun c_2 => ?_)
    · skip
      refine lv_iconst (v := 0) hx hb dX10_at_16 (by decide) ?_
      exact hret _ _ _ dX10_at_17 (by simp [zAt, *])
    · skip
      refine lv_aload_n hx hb dX10_at_10 rfl (lv_at hl 0 rfl) ?_
      refine lv_iload_n hx hb dX10_at_11 rfl (lv_at hl 1 rfl) ?_
      refine va_iald hx hb hK hP 0 0 rfl rfl (z_in c_1 c_2 hn) dX10_at_12 ?_
      refine lv_goto (tgt := 17) hx hb dX10_at_13 (by decide) ?_
      exact hret _ _ _ dX10_at_17 (by simp [zAt, *])

abbrev rm_X10_at_n : Room := { frames := 0, cells := 0, slots := 0, locals := 0 }
set_option maxHeartbeats 4000000 in
set_option maxRecDepth 100000 in
theorem c_X10_at_n (l : Launch) (D : va_G) (cI cB cP : ClassId) (a0 : Nat) (n : Nat) (F : Nat → Nat) (k : Nat) (hn : n < 2 ^ 31) (hk : k < n)  : zPi l D cI cB cP yX10_at wsX10_at rm_X10_at_n [.ref a0, .int (nI k)] ([(a0, .inl (cI, n, .inl (fun q_ => nI (F q_))))]) (fun r => r = nI (F k)) := by
  refine zPi_of (cc := cX10_at) (maxL := 2) (by decide) rfl (Nat.le_of_ble_eq_true rfl) ?_
  intro p e s m args below meth c ls Q hx hb hml hts hown hP hK hN hl hret
  have hown : s.vm.findClass RX10 = some m.cls := hown
  have hl : lv_has ls 2 [(0, .ref a0), (1, .int (nI k))] := hl
  refine lv_iload_n hx hb dX10_at_0 rfl (lv_at hl 1 rfl) ?_
  refine lv_if_lt (tgt := 16) hx hb dX10_at_1 (by decide) (fun c => absurd c (nI_pos (by omega))) (fun _ => ?_)
  refine lv_iload_n hx hb dX10_at_4 rfl (lv_at hl 1 rfl) ?_
  refine lv_aload_n hx hb dX10_at_5 rfl (lv_at hl 0 rfl) ?_
  refine va_alen hx hb hK hP 0 0 rfl rfl (v := nI n) rfl dX10_at_6 ?_
  refine lv_icmp_ge (tgt := 16) hx hb dX10_at_7 (by decide) (fun c_1 => ?_) (fun c_1 => ?_)
  · skip
    have c_1 : n ≤ k := (nI_leI (a := n) (b := k) (by omega) (by omega)).mp c_1
    exact absurd hk (by omega)
  · skip
    have c_1 : ¬ (n ≤ k) := (not_congr (nI_leI (a := n) (b := k) (by omega) (by omega))).mp c_1
    refine lv_aload_n hx hb dX10_at_10 rfl (lv_at hl 0 rfl) ?_
    refine lv_iload_n hx hb dX10_at_11 rfl (lv_at hl 1 rfl) ?_
    refine va_iald hx hb hK hP 0 0 rfl rfl (vp_in_nI (by omega) (by omega)) dX10_at_12 ?_
    refine z_top (y := nI (F k)) (z_ld (f := fun q_ => nI (F q_)) (a := k) (by omega) rfl) ?_
    refine lv_goto (tgt := 17) hx hb dX10_at_13 (by decide) ?_
    exact hret _ _ _ dX10_at_17 rfl

abbrev rm_X10_at_f : Room := { frames := 0, cells := 0, slots := 0, locals := 0 }
set_option maxHeartbeats 4000000 in
set_option maxRecDepth 100000 in
theorem c_X10_at_f (l : Launch) (D : va_G) (cI cB cP : ClassId) (a0 : Nat) (n : Nat) (f : Nat → Int32) (k : Nat) (hn : n < 2 ^ 31) (hk : k < n)  : zPi l D cI cB cP yX10_at wsX10_at rm_X10_at_f [.ref a0, .int (nI k)] ([(a0, .inl (cI, n, .inl (f)))]) (fun r => r = f k) := by
  refine zPi_of (cc := cX10_at) (maxL := 2) (by decide) rfl (Nat.le_of_ble_eq_true rfl) ?_
  intro p e s m args below meth c ls Q hx hb hml hts hown hP hK hN hl hret
  have hown : s.vm.findClass RX10 = some m.cls := hown
  have hl : lv_has ls 2 [(0, .ref a0), (1, .int (nI k))] := hl
  refine lv_iload_n hx hb dX10_at_0 rfl (lv_at hl 1 rfl) ?_
  refine lv_if_lt (tgt := 16) hx hb dX10_at_1 (by decide) (fun c => absurd c (nI_pos (by omega))) (fun _ => ?_)
  refine lv_iload_n hx hb dX10_at_4 rfl (lv_at hl 1 rfl) ?_
  refine lv_aload_n hx hb dX10_at_5 rfl (lv_at hl 0 rfl) ?_
  refine va_alen hx hb hK hP 0 0 rfl rfl (v := nI n) rfl dX10_at_6 ?_
  refine lv_icmp_ge (tgt := 16) hx hb dX10_at_7 (by decide) (fun c_1 => ?_) (fun c_1 => ?_)
  · skip
    have c_1 : n ≤ k := (nI_leI (a := n) (b := k) (by omega) (by omega)).mp c_1
    exact absurd hk (by omega)
  · skip
    have c_1 : ¬ (n ≤ k) := (not_congr (nI_leI (a := n) (b := k) (by omega) (by omega))).mp c_1
    refine lv_aload_n hx hb dX10_at_10 rfl (lv_at hl 0 rfl) ?_
    refine lv_iload_n hx hb dX10_at_11 rfl (lv_at hl 1 rfl) ?_
    refine va_iald hx hb hK hP 0 0 rfl rfl (vp_in_nI (by omega) (by omega)) dX10_at_12 ?_
    refine z_top (y := f k) (z_ld (f := f) (a := k) (by omega) rfl) ?_
    refine lv_goto (tgt := 17) hx hb dX10_at_13 (by decide) ?_
    exact hret _ _ _ dX10_at_17 rfl

abbrev rm_X10_isBoy : Room := { frames := 0, cells := 0, slots := 0, locals := 0 }
set_option maxHeartbeats 4000000 in
set_option maxRecDepth 100000 in
theorem c_X10_isBoy (l : Launch) (D : va_G) (cI cB cP : ClassId) (b : Int32)   : zPi l D cI cB cP yX10_isBoy wsX10_isBoy rm_X10_isBoy [.int b] ([]) (fun r => zB (¬ b < 0 ∧ b < 3) r) := by
  refine zPz_of (cc := cX10_isBoy) (maxL := 1) (by decide) rfl (Nat.le_of_ble_eq_true rfl) ?_
  intro p e s m args below meth c ls Q hx hb hml hts hown hP hK hN hl hret
  have hown : s.vm.findClass RX10 = some m.cls := hown
  have hl : lv_has ls 1 [(0, .int b)] := hl
  refine lv_iload_n hx hb dX10_isBoy_0 rfl (lv_at hl 0 rfl) ?_
  refine lv_if_lt (tgt := 13) hx hb dX10_isBoy_1 (by decide) (fun c_1 => ?_) (fun c_1 => ?_)
  · skip
    refine lv_iconst (v := 0) hx hb dX10_isBoy_13 (by decide) ?_
    exact hret _ _ _ dX10_isBoy_14 rfl (zB.f (by first | assumption | omega | (simp; omega) | simp_all))
  · skip
    refine lv_iload_n hx hb dX10_isBoy_4 rfl (lv_at hl 0 rfl) ?_
    refine lv_iconst (v := 3) hx hb dX10_isBoy_5 (by decide) ?_
    refine lv_icmp_ge (tgt := 13) hx hb dX10_isBoy_6 (by decide) (fun c_2 => ?_) (fun c_2 => ?_)
    · skip
      refine lv_iconst (v := 0) hx hb dX10_isBoy_13 (by decide) ?_
      exact hret _ _ _ dX10_isBoy_14 rfl (zB.f (by first | assumption | omega | (simp; omega) | simp_all))
    · skip
      refine lv_iconst (v := 1) hx hb dX10_isBoy_9 (by decide) ?_
      refine lv_goto (tgt := 14) hx hb dX10_isBoy_10 (by decide) ?_
      exact hret _ _ _ dX10_isBoy_14 rfl (zB.t (by first | assumption | omega | (simp; omega) | simp_all))

abbrev rm_X10_isKind : Room := { frames := 0, cells := 0, slots := 0, locals := 0 }
set_option maxHeartbeats 4000000 in
set_option maxRecDepth 100000 in
theorem c_X10_isKind (l : Launch) (D : va_G) (cI cB cP : ClassId) (b : Int32)   : zPi l D cI cB cP yX10_isKind wsX10_isKind rm_X10_isKind [.int b] ([]) (fun r => zB (¬ b < 0 ∧ b ≤ 4) r) := by
  refine zPz_of (cc := cX10_isKind) (maxL := 1) (by decide) rfl (Nat.le_of_ble_eq_true rfl) ?_
  intro p e s m args below meth c ls Q hx hb hml hts hown hP hK hN hl hret
  have hown : s.vm.findClass RX10 = some m.cls := hown
  have hl : lv_has ls 1 [(0, .int b)] := hl
  refine lv_iload_n hx hb dX10_isKind_0 rfl (lv_at hl 0 rfl) ?_
  refine lv_if_lt (tgt := 13) hx hb dX10_isKind_1 (by decide) (fun c_1 => ?_) (fun c_1 => ?_)
  · skip
    refine lv_iconst (v := 0) hx hb dX10_isKind_13 (by decide) ?_
    exact hret _ _ _ dX10_isKind_14 rfl (zB.f (by first | assumption | omega | (simp; omega) | simp_all))
  · skip
    refine lv_iload_n hx hb dX10_isKind_4 rfl (lv_at hl 0 rfl) ?_
    refine lv_iconst (v := 4) hx hb dX10_isKind_5 (by decide) ?_
    refine lv_icmp_gt (tgt := 13) hx hb dX10_isKind_6 (by decide) (fun c_2 => ?_) (fun c_2 => ?_)
    · skip
      refine lv_iconst (v := 0) hx hb dX10_isKind_13 (by decide) ?_
      exact hret _ _ _ dX10_isKind_14 rfl (zB.f (by first | assumption | omega | (simp; omega) | simp_all))
    · skip
      refine lv_iconst (v := 1) hx hb dX10_isKind_9 (by decide) ?_
      refine lv_goto (tgt := 14) hx hb dX10_isKind_10 (by decide) ?_
      exact hret _ _ _ dX10_isKind_14 rfl (zB.t (by first | assumption | omega | (simp; omega) | simp_all))

abbrev rm_X10_canBe : Room := { frames := 0, cells := 0, slots := 0, locals := 0 }
set_option maxHeartbeats 4000000 in
set_option maxRecDepth 100000 in
theorem c_X10_canBe (l : Launch) (D : va_G) (cI cB cP : ClassId) (t : Nat) (g : Nat) (ht : t < 2 ^ 31) (hg : g < 2)  : zPi l D cI cB cP yX10_canBe wsX10_canBe rm_X10_canBe [.int (nI t), .int (nI g)] ([]) (fun r => zB ((g = 0 ∧ t < 10) ∨ (g ≠ 0 ∧ 0 < t)) r) := by
  refine zPz_of (cc := cX10_canBe) (maxL := 2) (by decide) rfl (Nat.le_of_ble_eq_true rfl) ?_
  intro p e s m args below meth c ls Q hx hb hml hts hown hP hK hN hl hret
  have hown : s.vm.findClass RX10 = some m.cls := hown
  have hl : lv_has ls 2 [(0, .int (nI t)), (1, .int (nI g))] := hl
  refine lv_iload_n hx hb dX10_canBe_0 rfl (lv_at hl 1 rfl) ?_
  refine lv_if_eq (tgt := 16) hx hb dX10_canBe_1 (by decide) (fun c_1 => ?_) (fun c_1 => ?_)
  · skip
    have c_1 : g = 0 := (nI_eq (a := g) (b := 0) (by omega) (by omega)).mp c_1
    refine lv_iload_n hx hb dX10_canBe_16 rfl (lv_at hl 0 rfl) ?_
    refine lv_bipush (v := (10)) hx hb dX10_canBe_17 (by decide) ?_
    refine lv_icmp_ge (tgt := 26) hx hb dX10_canBe_19 (by decide) (fun c_2 => ?_) (fun c_2 => ?_)
    · skip
      have c_2 : 10 ≤ t := (nI_leI (a := 10) (b := t) (by omega) (by omega)).mp c_2
      refine lv_iconst (v := 0) hx hb dX10_canBe_26 (by decide) ?_
      exact hret _ _ _ dX10_canBe_27 rfl (zB.f (by first | assumption | omega | (simp; omega) | simp_all))
    · skip
      have c_2 : ¬ (10 ≤ t) := (not_congr (nI_leI (a := 10) (b := t) (by omega) (by omega))).mp c_2
      refine lv_iconst (v := 1) hx hb dX10_canBe_22 (by decide) ?_
      refine lv_goto (tgt := 27) hx hb dX10_canBe_23 (by decide) ?_
      exact hret _ _ _ dX10_canBe_27 rfl (zB.t (by first | assumption | omega | (simp; omega) | simp_all))
  · skip
    have c_1 : ¬ (g = 0) := (not_congr (nI_eq (a := g) (b := 0) (by omega) (by omega))).mp c_1
    refine lv_iload_n hx hb dX10_canBe_4 rfl (lv_at hl 0 rfl) ?_
    refine lv_if_le (tgt := 12) hx hb dX10_canBe_5 (by decide) (fun c_2 => ?_) (fun c_2 => ?_)
    · skip
      have c_2 : t ≤ 0 := (nI_leI (a := t) (b := 0) (by omega) (by omega)).mp c_2
      refine lv_iconst (v := 0) hx hb dX10_canBe_12 (by decide) ?_
      refine lv_goto (tgt := 27) hx hb dX10_canBe_13 (by decide) ?_
      exact hret _ _ _ dX10_canBe_27 rfl (zB.f (by first | assumption | omega | (simp; omega) | simp_all))
    · skip
      have c_2 : ¬ (t ≤ 0) := (not_congr (nI_leI (a := t) (b := 0) (by omega) (by omega))).mp c_2
      refine lv_iconst (v := 1) hx hb dX10_canBe_8 (by decide) ?_
      refine lv_goto (tgt := 27) hx hb dX10_canBe_9 (by decide) ?_
      exact hret _ _ _ dX10_canBe_27 rfl (zB.t (by first | assumption | omega | (simp; omega) | simp_all))

abbrev rm_X10_isMeanOrRow : Room := { frames := 0, cells := 0, slots := 0, locals := 0 }
set_option maxHeartbeats 4000000 in
set_option maxRecDepth 100000 in
theorem c_X10_isMeanOrRow (l : Launch) (D : va_G) (cI cB cP : ClassId) (w : Int32) (L : Nat) (hL : L < 100)  : zPi l D cI cB cP yX10_isMeanOrRow wsX10_isMeanOrRow rm_X10_isMeanOrRow [.int w, .int (nI L)] ([]) (fun r => zB (w = 0 ∨ w = 1 ∨ (¬ w < 10 ∧ w < nI (10 + L))) r) := by
  refine zPz_of (cc := cX10_isMeanOrRow) (maxL := 2) (by decide) rfl (Nat.le_of_ble_eq_true rfl) ?_
  intro p e s m args below meth c ls Q hx hb hml hts hown hP hK hN hl hret
  have hown : s.vm.findClass RX10 = some m.cls := hown
  have hl : lv_has ls 2 [(0, .int w), (1, .int (nI L))] := hl
  refine lv_iload_n hx hb dX10_isMeanOrRow_0 rfl (lv_at hl 0 rfl) ?_
  refine lv_if_eq (tgt := 23) hx hb dX10_isMeanOrRow_1 (by decide) (fun c_1 => ?_) (fun c_1 => ?_)
  · skip
    refine lv_iconst (v := 1) hx hb dX10_isMeanOrRow_23 (by decide) ?_
    refine lv_goto (tgt := 28) hx hb dX10_isMeanOrRow_24 (by decide) ?_
    exact hret _ _ _ dX10_isMeanOrRow_28 rfl (zB.t (by simp_all))
  · skip
    refine lv_iload_n hx hb dX10_isMeanOrRow_4 rfl (lv_at hl 0 rfl) ?_
    refine lv_iconst (v := 1) hx hb dX10_isMeanOrRow_5 (by decide) ?_
    refine lv_icmp_eq (tgt := 23) hx hb dX10_isMeanOrRow_6 (by decide) (fun c_2 => ?_) (fun c_2 => ?_)
    · skip
      refine lv_iconst (v := 1) hx hb dX10_isMeanOrRow_23 (by decide) ?_
      refine lv_goto (tgt := 28) hx hb dX10_isMeanOrRow_24 (by decide) ?_
      exact hret _ _ _ dX10_isMeanOrRow_28 rfl (zB.t (by simp_all))
    · skip
      refine lv_iload_n hx hb dX10_isMeanOrRow_9 rfl (lv_at hl 0 rfl) ?_
      refine lv_bipush (v := (10)) hx hb dX10_isMeanOrRow_10 (by decide) ?_
      refine lv_icmp_lt (tgt := 27) hx hb dX10_isMeanOrRow_12 (by decide) (fun c_3 => ?_) (fun c_3 => ?_)
      · skip
        refine lv_iconst (v := 0) hx hb dX10_isMeanOrRow_27 (by decide) ?_
        exact hret _ _ _ dX10_isMeanOrRow_28 rfl (zB.f (by simp_all))
      · skip
        refine lv_iload_n hx hb dX10_isMeanOrRow_15 rfl (lv_at hl 0 rfl) ?_
        refine lv_bipush (v := (10)) hx hb dX10_isMeanOrRow_16 (by decide) ?_
        refine lv_iload_n hx hb dX10_isMeanOrRow_18 rfl (lv_at hl 1 rfl) ?_
        refine lv_iadd hx hb dX10_isMeanOrRow_19 ?_
        refine z_top (show (10 + (nI L)) = nI (10 + L) from nI_add 10 L) ?_
        refine lv_icmp_ge (tgt := 27) hx hb dX10_isMeanOrRow_20 (by decide) (fun c_4 => ?_) (fun c_4 => ?_)
        · skip
          refine lv_iconst (v := 0) hx hb dX10_isMeanOrRow_27 (by decide) ?_
          exact hret _ _ _ dX10_isMeanOrRow_28 rfl (zB.f (by simp_all))
        · skip
          refine lv_iconst (v := 1) hx hb dX10_isMeanOrRow_23 (by decide) ?_
          refine lv_goto (tgt := 28) hx hb dX10_isMeanOrRow_24 (by decide) ?_
          exact hret _ _ _ dX10_isMeanOrRow_28 rfl (zB.t (by simp_all))

abbrev rm_X10_isIn : Room := { frames := 0, cells := 0, slots := 0, locals := 0 }
set_option maxHeartbeats 4000000 in
set_option maxRecDepth 100000 in
theorem c_X10_isIn (l : Launch) (D : va_G) (cI cB cP : ClassId) (b : Nat) (k : Nat) (hb1 : b < 2 ^ 31) (hk : k < 31)  : zPi l D cI cB cP yX10_isIn wsX10_isIn rm_X10_isIn [.int (nI b), .int (nI k)] ([]) (fun r => zB (b / 2 ^ k % 2 = 1) r) := by
  refine zPz_of (cc := cX10_isIn) (maxL := 2) (by decide) rfl (Nat.le_of_ble_eq_true rfl) ?_
  intro p e s m args below meth c ls Q hx hb hml hts hown hP hK hN hl hret
  have hown : s.vm.findClass RX10 = some m.cls := hown
  have hl : lv_has ls 2 [(0, .int (nI b)), (1, .int (nI k))] := hl
  refine lv_iload_n hx hb dX10_isIn_0 rfl (lv_at hl 0 rfl) ?_
  refine lv_iload_n hx hb dX10_isIn_1 rfl (lv_at hl 1 rfl) ?_
  refine lv_ishr hx hb dX10_isIn_2 ?_
  refine z_top (show ((nI b) >>> ((nI k) &&& 31)) = nI (b / 2 ^ k) from z_shr hb1 (by omega)) ?_
  refine lv_iconst (v := 1) hx hb dX10_isIn_3 (by decide) ?_
  refine lv_iand hx hb dX10_isIn_4 ?_
  refine z_top (show ((nI (b / 2 ^ k)) &&& 1) = nI (b / 2 ^ k % 2) from z_and1 (Nat.lt_of_le_of_lt (Nat.div_le_self _ _) hb1)) ?_
  refine lv_if_eq (tgt := 12) hx hb dX10_isIn_5 (by decide) (fun c_1 => ?_) (fun c_1 => ?_)
  · skip
    have c_1 : b / 2 ^ k % 2 = 0 := (nI_eq (a := b / 2 ^ k % 2) (b := 0) (by omega) (by omega)).mp c_1
    refine lv_iconst (v := 0) hx hb dX10_isIn_12 (by decide) ?_
    exact hret _ _ _ dX10_isIn_13 rfl (zB.f (by first | assumption | omega | (simp; omega) | simp_all))
  · skip
    have c_1 : ¬ (b / 2 ^ k % 2 = 0) := (not_congr (nI_eq (a := b / 2 ^ k % 2) (b := 0) (by omega) (by omega))).mp c_1
    refine lv_iconst (v := 1) hx hb dX10_isIn_8 (by decide) ?_
    refine lv_goto (tgt := 13) hx hb dX10_isIn_9 (by decide) ?_
    exact hret _ _ _ dX10_isIn_13 rfl (zB.t (by first | assumption | omega | (simp; omega) | simp_all))

abbrev rm_X10_fondAfterBlows : Room := { frames := 1, cells := 0, slots := 0, locals := 21 }
set_option maxHeartbeats 4000000 in
set_option maxRecDepth 100000 in
theorem c_X10_fondAfterBlows (l : Launch) (D : va_G) (cI cB cP : ClassId) (f : Nat) (st : Int32) (lim : Nat) (hf : f < 100)  : zPi l D cI cB cP yX10_fondAfterBlows wsX10_fondAfterBlows rm_X10_fondAfterBlows [.int (nI f), .int st, .int (nI lim)] ([]) (fun r => r = nI (zFond f st lim)) := by
  refine zPi_of (cc := cX10_fondAfterBlows) (maxL := 3) (by decide) rfl (Nat.le_of_ble_eq_true rfl) ?_
  intro p e s m args below meth c ls Q hx hb hml hts hown hP hK hN hl hret
  have hown : s.vm.findClass RX10 = some m.cls := hown
  have hl : lv_has ls 3 [(0, .int (nI f)), (1, .int st), (2, .int (nI lim))] := hl
  refine lv_iload_n hx hb dX10_fondAfterBlows_0 rfl (lv_at hl 1 rfl) ?_
  refine lv_iload_n hx hb dX10_fondAfterBlows_1 rfl (lv_at hl 2 rfl) ?_
  refine lv_icmp_gt (tgt := 16) hx hb dX10_fondAfterBlows_2 (by decide) (fun c_1 => ?_) (fun c_1 => ?_)
  · skip
    refine lv_iconst (v := 0) hx hb dX10_fondAfterBlows_16 (by decide) ?_
    refine lv_iload_n hx hb dX10_fondAfterBlows_17 rfl (lv_at hl 0 rfl) ?_
    refine lv_iconst (v := 2) hx hb dX10_fondAfterBlows_18 (by decide) ?_
    refine lv_isub hx hb dX10_fondAfterBlows_19 ?_
    refine va_mmax hx hb (hml.trans hl.1.symm) hown (hts (.methodLink RX10 314 Lib.Math.max.name) (List.mem_of_getElem? (i := 5) rfl)) (hts (.static Lib.Math.max.name) (List.mem_of_getElem? (i := 6) rfl)) (hts (.initialized "java/lang/Math") (List.mem_of_getElem? (i := 3) rfl)) (hts (.code Lib.Math.max.name Lib.Math.max.code 2 (some .int)) (List.mem_of_getElem? (i := 7) rfl)) (Nat.le_of_ble_eq_true rfl) (Nat.le_of_ble_eq_true rfl) (Nat.zero_le _) (Nat.zero_le _) dX10_fondAfterBlows_20 ?_
    refine z_top (show (if 0 < ((nI f) - 2) then ((nI f) - 2) else 0) = nI (f - 2) from z_max0 f 2 (by omega) (by omega)) ?_
    exact hret _ _ _ dX10_fondAfterBlows_23 (by rw [zFond, if_neg (Int32.not_le.mpr c_1)])
  · skip
    refine lv_bipush (v := (9)) hx hb dX10_fondAfterBlows_5 (by decide) ?_
    refine lv_iload_n hx hb dX10_fondAfterBlows_7 rfl (lv_at hl 0 rfl) ?_
    refine lv_iconst (v := 1) hx hb dX10_fondAfterBlows_8 (by decide) ?_
    refine lv_iadd hx hb dX10_fondAfterBlows_9 ?_
    refine z_top (show ((nI f) + 1) = nI (f + 1) from nI_add f 1) ?_
    refine va_mmin hx hb (hml.trans hl.1.symm) hown (hts (.methodLink RX10 309 Lib.Math.min.name) (List.mem_of_getElem? (i := 1) rfl)) (hts (.static Lib.Math.min.name) (List.mem_of_getElem? (i := 2) rfl)) (hts (.initialized "java/lang/Math") (List.mem_of_getElem? (i := 3) rfl)) (hts (.code Lib.Math.min.name Lib.Math.min.code 2 (some .int)) (List.mem_of_getElem? (i := 4) rfl)) (Nat.le_of_ble_eq_true rfl) (Nat.le_of_ble_eq_true rfl) (Nat.zero_le _) (Nat.zero_le _) dX10_fondAfterBlows_10 ?_
    refine z_top (show (if (nI (f + 1)) < 9 then (nI (f + 1)) else 9) = nI (min 9 (f + 1)) from z_min 9 (f + 1) (by omega) (by omega)) ?_
    refine lv_goto (tgt := 23) hx hb dX10_fondAfterBlows_13 (by decide) ?_
    exact hret _ _ _ dX10_fondAfterBlows_23 (by rw [zFond, if_pos (Int32.not_lt.mp c_1)])

abbrev rm_X10_nextSeed : Room := { frames := 0, cells := 0, slots := 0, locals := 0 }
set_option maxHeartbeats 4000000 in
set_option maxRecDepth 100000 in
theorem c_X10_nextSeed (l : Launch) (D : va_G) (cI cB cP : ClassId) (x : Nat) (hx1 : x < 2 ^ 31)  : zPi l D cI cB cP yX10_nextSeed wsX10_nextSeed rm_X10_nextSeed [.int (nI x)] ([]) (fun r => r = nI (zNext x)) := by
  refine zPi_of (cc := cX10_nextSeed) (maxL := 1) (by decide) rfl (Nat.le_of_ble_eq_true rfl) ?_
  intro p e s m args below meth c ls Q hx hb hml hts hown hP hK hN hl hret
  have hown : s.vm.findClass RX10 = some m.cls := hown
  have hl : lv_has ls 1 [(0, .int (nI x))] := hl
  refine lv_ldc2 (v := (1103515245)) hx hb hown (hts (.constantLong RX10 336 (1103515245)) (List.mem_of_getElem? (i := 1) rfl)) dX10_nextSeed_0 ?_
  refine lv_iload_n hx hb dX10_nextSeed_3 rfl (lv_at hl 0 rfl) ?_
  refine lv_i2l (v := lN x) hx hb dX10_nextSeed_4 (nI_l (by omega)) ?_
  refine lv_lmul hx hb dX10_nextSeed_5 ?_
  refine z_topl (show (1103515245 * (lN x)) = lN (1103515245 * x) from lN_mul 1103515245 x) ?_
  refine lv_ldc2 (v := (12345)) hx hb hown (hts (.constantLong RX10 338 (12345)) (List.mem_of_getElem? (i := 2) rfl)) dX10_nextSeed_6 ?_
  refine lv_ladd hx hb dX10_nextSeed_9 ?_
  refine z_topl (show ((lN (1103515245 * x)) + 12345) = lN (1103515245 * x + 12345) from lN_add (1103515245 * x) 12345) ?_
  refine lv_ldc2 (v := (2147483647)) hx hb hown (hts (.constantLong RX10 340 (2147483647)) (List.mem_of_getElem? (i := 3) rfl)) dX10_nextSeed_10 ?_
  refine lv_land hx hb dX10_nextSeed_13 ?_
  refine z_topl (show ((lN (1103515245 * x + 12345)) &&& 2147483647) = lN ((1103515245 * x + 12345) % 2 ^ 31) from z_land (by omega)) ?_
  refine lv_l2i (v := nI ((1103515245 * x + 12345) % 2 ^ 31)) hx hb dX10_nextSeed_14 (lN_i _) ?_
  exact hret _ _ _ dX10_nextSeed_15 rfl

abbrev rm_X10_sum : Room := { frames := 0, cells := 0, slots := 0, locals := 0 }
set_option maxHeartbeats 4000000 in
set_option maxRecDepth 100000 in
theorem c_X10_sum (l : Launch) (D : va_G) (cI cB cP : ClassId) (a0 : Nat) (n : Nat) (f : Nat → Int32) (hn : n < 2 ^ 31)  : zPi l D cI cB cP yX10_sum wsX10_sum rm_X10_sum [.ref a0] ([(a0, .inl (cI, n, .inl (f)))]) (fun r => r = zSum f n) := by
  refine zPi_of (cc := cX10_sum) (maxL := 3) (by decide) rfl (Nat.le_of_ble_eq_true rfl) ?_
  intro p e s m args below meth c ls Q hx hb hml hts hown hP hK hN hl hret
  have hown : s.vm.findClass RX10 = some m.cls := hown
  have hl : lv_has ls 3 [(0, .ref a0)] := hl
  refine lv_iconst (v := 0) hx hb dX10_sum_0 (by decide) ?_
  refine lv_istore_n (lv' := [(1, .int 0), (0, .ref a0)]) hx hb dX10_sum_1 rfl hl (by decide) rfl (fun ls hl => ?_)
  refine lv_iconst (v := 0) hx hb dX10_sum_2 (by decide) ?_
  refine lv_istore_n (lv' := [(2, .int 0), (1, .int 0), (0, .ref a0)]) hx hb dX10_sum_3 rfl hl (by decide) rfl (fun ls hl => ?_)
  have loop_4 : ∀ (fu_4 : Nat) (x : Int32) (i : Nat), (i ≤ n) → (x = zSum f i) → n - i < fu_4 → ∀ (ls : Array Slot), lv_has ls 3 [(2, .int (nI i)), (1, .int x), (0, .ref a0)] → W p l e rm_X10_sum s m args below meth c s.heap [] 0 0 Q (F0 m 4 ls []) := by
    intro fu_4
    induction fu_4 with
    | zero => intro x i hi hx1 hn_4; exact absurd hn_4 (by omega)
    | succ fu_4 ih_4 =>
      intro x i hi hx1 hn_4 ls hl
      refine lv_iload_n hx hb dX10_sum_4 rfl (lv_at hl 0 rfl) ?_
      refine lv_aload_n hx hb dX10_sum_5 rfl (lv_at hl 2 rfl) ?_
      refine va_alen hx hb hK hP 0 0 rfl rfl (v := nI n) rfl dX10_sum_6 ?_
      refine lv_icmp_ge (tgt := 22) hx hb dX10_sum_7 (by decide) (fun c_1 => ?_) (fun c_1 => ?_)
      · skip
        have c_1 : n ≤ i := (nI_leI (a := n) (b := i) (by omega) (by omega)).mp c_1
        refine lv_iload_n hx hb dX10_sum_22 rfl (lv_at hl 1 rfl) ?_
        exact hret _ _ _ dX10_sum_23 (by rw [hx1]; congr 1; omega)
      · skip
        have c_1 : ¬ (n ≤ i) := (not_congr (nI_leI (a := n) (b := i) (by omega) (by omega))).mp c_1
        refine lv_iload_n hx hb dX10_sum_10 rfl (lv_at hl 1 rfl) ?_
        refine lv_aload_n hx hb dX10_sum_11 rfl (lv_at hl 2 rfl) ?_
        refine lv_iload_n hx hb dX10_sum_12 rfl (lv_at hl 0 rfl) ?_
        refine va_iald hx hb hK hP 0 0 rfl rfl (vp_in_nI (by omega) (by omega)) dX10_sum_13 ?_
        refine z_top (y := f i) (z_ld (f := f) (a := i) (by omega) rfl) ?_
        refine lv_iadd hx hb dX10_sum_14 ?_
        refine lv_istore_n (lv' := [(1, .int (x + (f i))), (2, .int (nI i)), (0, .ref a0)]) hx hb dX10_sum_15 rfl hl (by decide) rfl (fun ls hl => ?_)
        refine lv_iinc (v := nI (i + 1)) (lv' := [(2, .int (nI (i + 1))), (1, .int (x + (f i))), (0, .ref a0)]) hx hb dX10_sum_16 hl (k := 1) rfl (nI_add (i) 1) (by decide) rfl (fun ls hl => ?_)
        refine lv_goto (tgt := 4) hx hb dX10_sum_19 (by decide) ?_
        exact ih_4 (x + (f i)) (i + 1) (by omega) (by rw [hx1]; rfl) (by omega) ls hl
  exact loop_4 _ 0 0 (by first | assumption | omega | exact Nat.zero_le _ | rfl) (by first | assumption | omega | exact Nat.zero_le _ | rfl) (Nat.lt_succ_self _) ls hl

abbrev rm_X10_commonDivisor : Room := { frames := 0, cells := 0, slots := 0, locals := 0 }
set_option maxHeartbeats 4000000 in
set_option maxRecDepth 100000 in
theorem c_X10_commonDivisor (l : Launch) (D : va_G) (cI cB cP : ClassId) (a : Nat) (b : Nat) (ha : a < 2 ^ 62) (hb1 : b < 2 ^ 40)  : zPl l D cI cB cP yX10_commonDivisor wsX10_commonDivisor rm_X10_commonDivisor [.long (lN a), .long (lN b)] ([]) (fun r => r = lN (Nat.gcd a b)) := by
  refine zPl_of (cc := cX10_commonDivisor) (maxL := 11) (by decide) rfl (Nat.le_of_ble_eq_true rfl) ?_
  intro p e s m args below meth c ls Q hx hb hml hts hown hP hK hN hl hret
  have hown : s.vm.findClass RX10 = some m.cls := hown
  have hl : lv_has ls 11 [(0, .long (lN a)), (2, .long (lN b))] := hl
  refine lv_lload_n hx hb dX10_commonDivisor_0 rfl (lv_at hl 0 rfl) ?_
  refine lv_lstore (lv' := [(4, .long (lN a)), (0, .long (lN a)), (2, .long (lN b))]) hx hb dX10_commonDivisor_1 hl (by decide) rfl (fun ls hl => ?_)
  refine lv_lload_n hx hb dX10_commonDivisor_3 rfl (lv_at hl 2 rfl) ?_
  refine lv_lstore (lv' := [(6, .long (lN b)), (4, .long (lN a)), (0, .long (lN a)), (2, .long (lN b))]) hx hb dX10_commonDivisor_4 hl (by decide) rfl (fun ls hl => ?_)
  refine lv_iconst (v := 0) hx hb dX10_commonDivisor_6 (by decide) ?_
  refine lv_istore (lv' := [(8, .int 0), (6, .long (lN b)), (4, .long (lN a)), (0, .long (lN a)), (2, .long (lN b))]) hx hb dX10_commonDivisor_7 hl (by decide) rfl (fun ls hl => ?_)
  have loop_9 : ∀ (fu_9 : Nat) (x z i : Nat), (zEu a b i x z) → (i ≤ 100) → 100 - i < fu_9 → ∀ (ls : Array Slot), lv_has ls 11 [(8, .int (nI i)), (6, .long (lN z)), (4, .long (lN x)), (0, .long (lN a)), (2, .long (lN b))] → W p l e rm_X10_commonDivisor s m args below meth c s.heap [] 0 0 Q (F0 m 9 ls []) := by
    intro fu_9
    induction fu_9 with
    | zero => intro x z i hE hi hn_9; exact absurd hn_9 (by omega)
    | succ fu_9 ih_9 =>
      intro x z i hE hi hn_9 ls hl
      have hE1 : x < 2 ^ 62 := hE.2.1
      have hE2 : z < 2 ^ 62 := hE.2.2.1
      refine lv_iload hx hb dX10_commonDivisor_9 (lv_at hl 0 rfl) ?_
      refine lv_bipush (v := (100)) hx hb dX10_commonDivisor_11 (by decide) ?_
      refine lv_icmp_ge (tgt := 44) hx hb dX10_commonDivisor_13 (by decide) (fun c_1 => ?_) (fun c_1 => ?_)
      · skip
        have c_1 : 100 ≤ i := (nI_leI (a := 100) (b := i) (by omega) (by omega)).mp c_1
        refine lv_lload hx hb dX10_commonDivisor_44 (lv_at hl 2 rfl) ?_
        exact hret _ _ _ dX10_commonDivisor_46 (by have e := hE.last (by omega) hb1; subst e; rw [hE.gcd])
      · skip
        have c_1 : ¬ (100 ≤ i) := (not_congr (nI_leI (a := 100) (b := i) (by omega) (by omega))).mp c_1
        refine lv_lload hx hb dX10_commonDivisor_16 (lv_at hl 1 rfl) ?_
        refine lv_lconst (v := 0) hx hb dX10_commonDivisor_18 (by decide) ?_
        refine W.lcmp hx hb dX10_commonDivisor_19 ?_
        refine lv_if_eq (tgt := 44) hx hb dX10_commonDivisor_20 (by decide) (fun c_2 => ?_) (fun c_2 => ?_)
        · skip
          have c_2 : ((lN z) : Int64) = 0 := (lg_cmp_eq _ _).mp c_2
          have c_2 : z = 0 := (pk_lEQ (a := z) (b := 0) (by omega) (by omega)).mp c_2
          refine lv_lload hx hb dX10_commonDivisor_44 (lv_at hl 2 rfl) ?_
          exact hret _ _ _ dX10_commonDivisor_46 (by subst c_2; rw [hE.gcd])
        · skip
          have c_2 : ¬ (((lN z) : Int64) = 0) := (not_congr (lg_cmp_eq _ _)).mp c_2
          have c_2 : ¬ (z = 0) := (not_congr (pk_lEQ (a := z) (b := 0) (by omega) (by omega))).mp c_2
          refine lv_lload hx hb dX10_commonDivisor_23 (lv_at hl 2 rfl) ?_
          refine lv_lload hx hb dX10_commonDivisor_25 (lv_at hl 1 rfl) ?_
          refine lv_lrem hx hb dX10_commonDivisor_27 (z_lne (by omega) (by omega)) ?_
          refine z_topl (show ((lN x) - (lN x) / (lN z) * (lN z)) = lN (x % z) from pk_lRem (a := x) (b := z) (by omega) (by omega) (by omega)) ?_
          refine lv_lstore (lv' := [(9, .long (lN (x % z))), (8, .int (nI i)), (6, .long (lN z)), (4, .long (lN x)), (0, .long (lN a)), (2, .long (lN b))]) hx hb dX10_commonDivisor_28 hl (by decide) rfl (fun ls hl => ?_)
          refine lv_lload hx hb dX10_commonDivisor_30 (lv_at hl 2 rfl) ?_
          refine lv_lstore (lv' := [(4, .long (lN z)), (9, .long (lN (x % z))), (8, .int (nI i)), (6, .long (lN z)), (0, .long (lN a)), (2, .long (lN b))]) hx hb dX10_commonDivisor_32 hl (by decide) rfl (fun ls hl => ?_)
          refine lv_lload hx hb dX10_commonDivisor_34 (lv_at hl 1 rfl) ?_
          refine lv_lstore (lv' := [(6, .long (lN (x % z))), (4, .long (lN z)), (9, .long (lN (x % z))), (8, .int (nI i)), (0, .long (lN a)), (2, .long (lN b))]) hx hb dX10_commonDivisor_36 hl (by decide) rfl (fun ls hl => ?_)
          refine lv_iinc (v := nI (i + 1)) (lv' := [(8, .int (nI (i + 1))), (6, .long (lN (x % z))), (4, .long (lN z)), (9, .long (lN (x % z))), (0, .long (lN a)), (2, .long (lN b))]) hx hb dX10_commonDivisor_38 hl (k := 3) rfl (nI_add (i) 1) (by decide) rfl (fun ls hl => ?_)
          refine lv_goto (tgt := 9) hx hb dX10_commonDivisor_41 (by decide) ?_
          exact ih_9 z (x % z) (i + 1) (hE.step (by omega)) (by omega) (by omega) ls (lv_sub hl [0, 1, 2, 4, 5] rfl)
  exact loop_9 _ a b 0 (zEu.start (by omega) (by omega)) (by omega) (Nat.lt_succ_self _) ls hl

abbrev rm_X10_inLowestTerms : Room := { frames := 1, cells := 0, slots := 0, locals := 30 }
set_option maxHeartbeats 4000000 in
set_option maxRecDepth 100000 in
theorem c_X10_inLowestTerms (l : Launch) (D : va_G) (cI cB cP : ClassId) (a : Nat) (b : Nat) (w : Int32) (ha : a < 2 ^ 62) (hb1 : b < 2 ^ 40) (hb0 : 0 < b)  : zPl l D cI cB cP yX10_inLowestTerms wsX10_inLowestTerms rm_X10_inLowestTerms [.long (lN a), .long (lN b), .int w] ([]) (fun r => r = lN ((if w = 0 then a else b) / Nat.gcd a b)) := by
  refine zPl_of (cc := cX10_inLowestTerms) (maxL := 9) (by decide) rfl (Nat.le_of_ble_eq_true rfl) ?_
  intro p e s m args below meth c ls Q hx hb hml hts hown hP hK hN hl hret
  have hown : s.vm.findClass RX10 = some m.cls := hown
  have hl : lv_has ls 9 [(0, .long (lN a)), (2, .long (lN b)), (4, .int w)] := hl
  have hg0 : 0 < Nat.gcd a b := Nat.gcd_pos_of_pos_right _ hb0
  have hg1 : Nat.gcd a b ≤ b := Nat.gcd_le_right _ hb0
  refine lv_iload hx hb dX10_inLowestTerms_0 (lv_at hl 2 rfl) ?_
  refine lv_if_ne (tgt := 9) hx hb dX10_inLowestTerms_2 (by decide) (fun c_1 => ?_) (fun c_1 => ?_)
  · skip
    refine lv_lload_n hx hb dX10_inLowestTerms_9 rfl (lv_at hl 1 rfl) ?_
    refine lv_lstore (lv' := [(5, .long (lN b)), (0, .long (lN a)), (2, .long (lN b)), (4, .int w)]) hx hb dX10_inLowestTerms_10 hl (by decide) rfl (fun ls hl => ?_)
    refine lv_lload_n hx hb dX10_inLowestTerms_12 rfl (lv_at hl 1 rfl) ?_
    refine lv_lload_n hx hb dX10_inLowestTerms_13 rfl (lv_at hl 2 rfl) ?_
    refine vp_callSl (z_runS (As := [.long (lN a), .long (lN b)]) (rest := []) hx hb hml hown hts hK hN hl.1 (c_X10_commonDivisor l D cI cB cP a b (by first | assumption | omega) (by first | assumption | omega)) gX10_inLowestTerms_X10_commonDivisor rfl zd_X10_commonDivisor rfl (Nat.le_of_ble_eq_true rfl) (Nat.le_of_ble_eq_true rfl) z_p0 rfl (Nat.le_of_ble_eq_true rfl) dX10_inLowestTerms_14 ⟨Nat.zero_le _, Nat.zero_le _⟩) (fun r hr => ?_)
    subst hr
    refine lv_lstore (lv' := [(7, .long (lN (Nat.gcd a b))), (5, .long (lN b)), (0, .long (lN a)), (2, .long (lN b)), (4, .int w)]) hx hb dX10_inLowestTerms_17 hl (by decide) rfl (fun ls hl => ?_)
    refine lv_lload hx hb dX10_inLowestTerms_19 (lv_at hl 0 rfl) ?_
    refine lv_lconst (v := 0) hx hb dX10_inLowestTerms_21 (by decide) ?_
    refine W.lcmp hx hb dX10_inLowestTerms_22 ?_
    refine lv_if_ne (tgt := 31) hx hb dX10_inLowestTerms_23 (by decide) (fun c_2 => ?_) (fun c_2 => ?_)
    · skip
      have c_2 : ¬ (((lN (Nat.gcd a b)) : Int64) = 0) := (not_congr (lg_cmp_eq _ _)).mp c_2
      have c_2 : ¬ (Nat.gcd a b = 0) := (not_congr (pk_lEQ (a := Nat.gcd a b) (b := 0) (by omega) (by omega))).mp c_2
      refine lv_lload hx hb dX10_inLowestTerms_31 (lv_at hl 1 rfl) ?_
      refine lv_lload hx hb dX10_inLowestTerms_33 (lv_at hl 0 rfl) ?_
      refine lv_ldiv hx hb dX10_inLowestTerms_35 (z_lne (by omega) (by omega)) ?_
      refine z_topl (show ((lN b) / (lN (Nat.gcd a b))) = lN (b / (Nat.gcd a b)) from pk_lDiv (a := b) (b := Nat.gcd a b) (by omega) (by omega) (by omega)) ?_
      exact hret _ _ _ dX10_inLowestTerms_36 (by rw [if_neg c_1])
    · skip
      have c_2 : ((lN (Nat.gcd a b)) : Int64) = 0 := (lg_cmp_eq _ _).mp c_2
      have c_2 : Nat.gcd a b = 0 := (pk_lEQ (a := Nat.gcd a b) (b := 0) (by omega) (by omega)).mp c_2
      exact absurd c_2 (by omega)
  · skip
    refine lv_lload_n hx hb dX10_inLowestTerms_5 rfl (lv_at hl 0 rfl) ?_
    refine lv_goto (tgt := 10) hx hb dX10_inLowestTerms_6 (by decide) ?_
    refine lv_lstore (lv' := [(5, .long (lN a)), (0, .long (lN a)), (2, .long (lN b)), (4, .int w)]) hx hb dX10_inLowestTerms_10 hl (by decide) rfl (fun ls hl => ?_)
    refine lv_lload_n hx hb dX10_inLowestTerms_12 rfl (lv_at hl 1 rfl) ?_
    refine lv_lload_n hx hb dX10_inLowestTerms_13 rfl (lv_at hl 2 rfl) ?_
    refine vp_callSl (z_runS (As := [.long (lN a), .long (lN b)]) (rest := []) hx hb hml hown hts hK hN hl.1 (c_X10_commonDivisor l D cI cB cP a b (by first | assumption | omega) (by first | assumption | omega)) gX10_inLowestTerms_X10_commonDivisor rfl zd_X10_commonDivisor rfl (Nat.le_of_ble_eq_true rfl) (Nat.le_of_ble_eq_true rfl) z_p0 rfl (Nat.le_of_ble_eq_true rfl) dX10_inLowestTerms_14 ⟨Nat.zero_le _, Nat.zero_le _⟩) (fun r hr => ?_)
    subst hr
    refine lv_lstore (lv' := [(7, .long (lN (Nat.gcd a b))), (5, .long (lN a)), (0, .long (lN a)), (2, .long (lN b)), (4, .int w)]) hx hb dX10_inLowestTerms_17 hl (by decide) rfl (fun ls hl => ?_)
    refine lv_lload hx hb dX10_inLowestTerms_19 (lv_at hl 0 rfl) ?_
    refine lv_lconst (v := 0) hx hb dX10_inLowestTerms_21 (by decide) ?_
    refine W.lcmp hx hb dX10_inLowestTerms_22 ?_
    refine lv_if_ne (tgt := 31) hx hb dX10_inLowestTerms_23 (by decide) (fun c_2 => ?_) (fun c_2 => ?_)
    · skip
      have c_2 : ¬ (((lN (Nat.gcd a b)) : Int64) = 0) := (not_congr (lg_cmp_eq _ _)).mp c_2
      have c_2 : ¬ (Nat.gcd a b = 0) := (not_congr (pk_lEQ (a := Nat.gcd a b) (b := 0) (by omega) (by omega))).mp c_2
      refine lv_lload hx hb dX10_inLowestTerms_31 (lv_at hl 1 rfl) ?_
      refine lv_lload hx hb dX10_inLowestTerms_33 (lv_at hl 0 rfl) ?_
      refine lv_ldiv hx hb dX10_inLowestTerms_35 (z_lne (by omega) (by omega)) ?_
      refine z_topl (show ((lN a) / (lN (Nat.gcd a b))) = lN (a / (Nat.gcd a b)) from pk_lDiv (a := a) (b := Nat.gcd a b) (by omega) (by omega) (by omega)) ?_
      exact hret _ _ _ dX10_inLowestTerms_36 (by rw [if_pos c_1])
    · skip
      have c_2 : ((lN (Nat.gcd a b)) : Int64) = 0 := (lg_cmp_eq _ _).mp c_2
      have c_2 : Nat.gcd a b = 0 := (pk_lEQ (a := Nat.gcd a b) (b := 0) (by omega) (by omega)).mp c_2
      exact absurd c_2 (by omega)

abbrev rm_X10_mix : Room := { frames := 0, cells := 0, slots := 0, locals := 0 }
set_option maxHeartbeats 4000000 in
set_option maxRecDepth 100000 in
theorem c_X10_mix (l : Launch) (D : va_G) (cI cB cP : ClassId) (h : Int64) (v : Int64)   : zPl l D cI cB cP yX10_mix wsX10_mix rm_X10_mix [.long h, .long v] ([]) (fun r => r = 31 * h + v) := by
  refine zPl_of (cc := cX10_mix) (maxL := 4) (by decide) rfl (Nat.le_of_ble_eq_true rfl) ?_
  intro p e s m args below meth c ls Q hx hb hml hts hown hP hK hN hl hret
  have hown : s.vm.findClass RX10 = some m.cls := hown
  have hl : lv_has ls 4 [(0, .long h), (2, .long v)] := hl
  refine lv_ldc2 (v := (31)) hx hb hown (hts (.constantLong RX10 293 (31)) (List.mem_of_getElem? (i := 1) rfl)) dX10_mix_0 ?_
  refine lv_lload_n hx hb dX10_mix_3 rfl (lv_at hl 0 rfl) ?_
  refine lv_lmul hx hb dX10_mix_4 ?_
  refine lv_lload_n hx hb dX10_mix_5 rfl (lv_at hl 1 rfl) ?_
  refine lv_ladd hx hb dX10_mix_6 ?_
  exact hret _ _ _ dX10_mix_7 (by first | rfl | simp_all)
