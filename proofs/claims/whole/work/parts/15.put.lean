abbrev rm_X10_put_n : Room := { frames := 0, cells := 0, slots := 0, locals := 0 }
set_option maxHeartbeats 4000000 in
set_option maxRecDepth 100000 in
theorem c_X10_put_n (l : Launch) (D : va_G) (cI cB cP : ClassId) (a0 : Nat) (n : Nat) (F : Nat → Nat) (k : Nat) (v : Nat) (hn : n < 2 ^ 31) (hk : k < n)  : zWv (S := Unit) l D cI cB cP yX10_put wsX10_put rm_X10_put_n [.ref a0, .int (nI k), .int (nI v)] [(a0, .inl (cI, n, .inl (fun q_ => nI (F q_))))] ([]) (fun _ => True) (fun u => [(a0, .inl (cI, n, .inl (fun q_ => nI ((va_up F k v) q_))))]) := by
  refine zWv_of (cc := cX10_put) (maxL := 3) (by decide) rfl (Nat.le_of_ble_eq_true rfl) ?_
  intro p e s m args below meth c ls Q A H locs hx hb hml hts hown hP hD hS hA hRk hRA hK hN hl hret
  have hown : s.vm.findClass RX10 = some m.cls := hown
  have hl : lv_has ls 3 [(0, .ref a0), (1, .int (nI k)), (2, .int (nI v))] := hl
  refine lv_iload_n hx hb dX10_put_0 rfl (lv_at hl 1 rfl) ?_
  refine lv_if_lt (tgt := 14) hx hb dX10_put_1 (by decide) (fun c => absurd c (nI_pos (by omega))) (fun _ => ?_)
  refine lv_iload_n hx hb dX10_put_4 rfl (lv_at hl 1 rfl) ?_
  refine lv_aload_n hx hb dX10_put_5 rfl (lv_at hl 0 rfl) ?_
  refine va_alen hx hb hK hP 0 0 rfl rfl (v := nI n) rfl dX10_put_6 ?_
  refine lv_icmp_ge (tgt := 14) hx hb dX10_put_7 (by decide) (fun c_1 => ?_) (fun c_1 => ?_)
  · skip
    have c_1 : n ≤ k := (nI_leI (a := n) (b := k) (by omega) (by omega)).mp c_1
    exact absurd hk (by omega)
  · skip
    have c_1 : ¬ (n ≤ k) := (not_congr (nI_leI (a := n) (b := k) (by omega) (by omega))).mp c_1
    refine lv_aload_n hx hb dX10_put_10 rfl (lv_at hl 0 rfl) ?_
    refine lv_iload_n hx hb dX10_put_11 rfl (lv_at hl 1 rfl) ?_
    refine lv_iload_n hx hb dX10_put_12 rfl (lv_at hl 2 rfl) ?_
    refine va_iast hx hb hK hP hD hS 0 0 rfl rfl (vp_in_nI (by omega) (by omega)) dX10_put_13 (fun H locs hP hD hS => ?_)
    have eN := zst F k v (by omega)
    have hP : va_P D vwCl [(a0, .inl (cI, n, .inl (fun q_ => nI ((va_up F k v) q_))))] H := by rw [← eN]; exact hP
    have hD : va_D A [(a0, .inl (cI, n, .inl (fun q_ => nI ((va_up F k v) q_))))] := by rw [← eN]; exact hD
    exact hret _ _ (()) _ _ dX10_put_14 trivial hP hD hS

abbrev rm_X10_put_f : Room := { frames := 0, cells := 0, slots := 0, locals := 0 }
set_option maxHeartbeats 4000000 in
set_option maxRecDepth 100000 in
theorem c_X10_put_f (l : Launch) (D : va_G) (cI cB cP : ClassId) (a0 : Nat) (n : Nat) (f : Nat → Int32) (k : Nat) (v : Int32) (hn : n < 2 ^ 31) (hk : k < n)  : zWv (S := Unit) l D cI cB cP yX10_put wsX10_put rm_X10_put_f [.ref a0, .int (nI k), .int v] [(a0, .inl (cI, n, .inl (f)))] ([]) (fun _ => True) (fun u => [(a0, .inl (cI, n, .inl (upd f k v)))]) := by
  refine zWv_of (cc := cX10_put) (maxL := 3) (by decide) rfl (Nat.le_of_ble_eq_true rfl) ?_
  intro p e s m args below meth c ls Q A H locs hx hb hml hts hown hP hD hS hA hRk hRA hK hN hl hret
  have hown : s.vm.findClass RX10 = some m.cls := hown
  have hl : lv_has ls 3 [(0, .ref a0), (1, .int (nI k)), (2, .int v)] := hl
  refine lv_iload_n hx hb dX10_put_0 rfl (lv_at hl 1 rfl) ?_
  refine lv_if_lt (tgt := 14) hx hb dX10_put_1 (by decide) (fun c => absurd c (nI_pos (by omega))) (fun _ => ?_)
  refine lv_iload_n hx hb dX10_put_4 rfl (lv_at hl 1 rfl) ?_
  refine lv_aload_n hx hb dX10_put_5 rfl (lv_at hl 0 rfl) ?_
  refine va_alen hx hb hK hP 0 0 rfl rfl (v := nI n) rfl dX10_put_6 ?_
  refine lv_icmp_ge (tgt := 14) hx hb dX10_put_7 (by decide) (fun c_1 => ?_) (fun c_1 => ?_)
  · skip
    have c_1 : n ≤ k := (nI_leI (a := n) (b := k) (by omega) (by omega)).mp c_1
    exact absurd hk (by omega)
  · skip
    have c_1 : ¬ (n ≤ k) := (not_congr (nI_leI (a := n) (b := k) (by omega) (by omega))).mp c_1
    refine lv_aload_n hx hb dX10_put_10 rfl (lv_at hl 0 rfl) ?_
    refine lv_iload_n hx hb dX10_put_11 rfl (lv_at hl 1 rfl) ?_
    refine lv_iload_n hx hb dX10_put_12 rfl (lv_at hl 2 rfl) ?_
    refine va_iast hx hb hK hP hD hS 0 0 rfl rfl (vp_in_nI (by omega) (by omega)) dX10_put_13 (fun H locs hP hD hS => ?_)
    have eN := zsti (f) k v (by omega)
    have hP : va_P D vwCl [(a0, .inl (cI, n, .inl (upd (f) k v)))] H := by rw [← eN]; exact hP
    have hD : va_D A [(a0, .inl (cI, n, .inl (upd (f) k v)))] := by rw [← eN]; exact hD
    have eW : ([(a0, .inl (cI, n, .inl (upd f k v)))] : va_W) = [(a0, .inl (cI, n, .inl (upd (f) k v)))] := rfl
    exact hret _ _ (()) _ _ dX10_put_14 trivial (Eq.mpr (congrArg (fun w => va_P D vwCl w H) eW) hP) (Eq.mpr (congrArg (fun w => va_D A w) eW) hD) hS

abbrev rm_X10_fill : Room := { frames := 0, cells := 0, slots := 0, locals := 0 }
set_option maxHeartbeats 4000000 in
set_option maxRecDepth 100000 in
theorem c_X10_fill (l : Launch) (D : va_G) (cI cB cP : ClassId) (a0 : Nat) (n : Nat) (f : Nat → Int32) (v : Int32) (hn : n < 2 ^ 31)  : zWv (S := Unit) l D cI cB cP yX10_fill wsX10_fill rm_X10_fill [.ref a0, .int v] [(a0, .inl (cI, n, .inl (f)))] ([]) (fun _ => True) (fun u => [(a0, .inl (cI, n, .inl (fun _ => v)))]) := by
  refine zWv_of (cc := cX10_fill) (maxL := 3) (by decide) rfl (Nat.le_of_ble_eq_true rfl) ?_
  intro p e s m args below meth c ls Q A H locs hx hb hml hts hown hP hD hS hA hRk hRA hK hN hl hret
  have hown : s.vm.findClass RX10 = some m.cls := hown
  have hl : lv_has ls 3 [(0, .ref a0), (1, .int v)] := hl
  refine lv_iconst (v := 0) hx hb dX10_fill_0 (by decide) ?_
  refine lv_istore_n (lv' := [(2, .int 0), (0, .ref a0), (1, .int v)]) hx hb dX10_fill_1 rfl hl (by decide) rfl (fun ls hl => ?_)
  have loop_2 : ∀ (fu_2 : Nat) (g : Nat → Int32) (i : Nat), (i ≤ n) → (∀ j, j < i → g j = v) → n - i < fu_2 → ∀ (ls : Array Slot) (H : Heap) (locs : List Loc), va_P D vwCl [(a0, .inl (cI, n, .inl (g)))] H → va_D A [(a0, .inl (cI, n, .inl (g)))] → va_S A s.heap H locs → lv_has ls 3 [(2, .int (nI i)), (0, .ref a0), (1, .int v)] → W p l e rm_X10_fill s m args below meth c H locs 0 0 Q (F0 m 2 ls []) := by
    intro fu_2
    induction fu_2 with
    | zero => intro g i hi hg hn_2; exact absurd hn_2 (by omega)
    | succ fu_2 ih_2 =>
      intro g i hi hg hn_2 ls H locs hP hD hS hl
      refine lv_iload_n hx hb dX10_fill_2 rfl (lv_at hl 0 rfl) ?_
      refine lv_aload_n hx hb dX10_fill_3 rfl (lv_at hl 1 rfl) ?_
      refine va_alen hx hb hK hP 0 0 rfl rfl (v := nI n) rfl dX10_fill_4 ?_
      refine lv_icmp_ge (tgt := 18) hx hb dX10_fill_5 (by decide) (fun c_1 => ?_) (fun c_1 => ?_)
      · skip
        have c_1 : n ≤ i := (nI_leI (a := n) (b := i) (by omega) (by omega)).mp c_1
        have hD := z_Dext (i := 0) (g := fun _ => v) hD rfl
        have hP := z_Pext (i := 0) (g := fun _ => v) hP rfl (fun j hj => hg j (by omega))
        have hP : va_P D vwCl [(a0, .inl (cI, n, .inl (fun _ => v)))] H := hP
        have hD : va_D A [(a0, .inl (cI, n, .inl (fun _ => v)))] := hD
        exact hret _ _ (()) _ _ dX10_fill_18 trivial hP hD hS
      · skip
        have c_1 : ¬ (n ≤ i) := (not_congr (nI_leI (a := n) (b := i) (by omega) (by omega))).mp c_1
        refine lv_aload_n hx hb dX10_fill_8 rfl (lv_at hl 1 rfl) ?_
        refine lv_iload_n hx hb dX10_fill_9 rfl (lv_at hl 0 rfl) ?_
        refine lv_iload_n hx hb dX10_fill_10 rfl (lv_at hl 2 rfl) ?_
        refine va_iast hx hb hK hP hD hS 0 0 rfl rfl (vp_in_nI (by omega) (by omega)) dX10_fill_11 (fun H locs hP hD hS => ?_)
        have eN := zsti (g) i v (by omega)
        have hP : va_P D vwCl [(a0, .inl (cI, n, .inl (upd (g) i v)))] H := by rw [← eN]; exact hP
        have hD : va_D A [(a0, .inl (cI, n, .inl (upd (g) i v)))] := by rw [← eN]; exact hD
        refine lv_iinc (v := nI (i + 1)) (lv' := [(2, .int (nI (i + 1))), (0, .ref a0), (1, .int v)]) hx hb dX10_fill_12 hl (k := 0) rfl (nI_add (i) 1) (by decide) rfl (fun ls hl => ?_)
        refine lv_goto (tgt := 2) hx hb dX10_fill_15 (by decide) ?_
        exact ih_2 (upd (g) i v) (i + 1) (by omega) (fun j hj => by by_cases e : j = i <;> simp [upd, e]; exact hg j (by omega)) (by omega) ls _ _ hP hD hS hl
  exact loop_2 _ f 0 (Nat.zero_le _) (fun j hj => absurd hj (by omega)) (Nat.lt_succ_self _) ls _ _ hP hD hS hl

abbrev rm_X10_copy_n : Room := { frames := 0, cells := 0, slots := 0, locals := 0 }
set_option maxHeartbeats 4000000 in
set_option maxRecDepth 100000 in
theorem c_X10_copy_n (l : Launch) (D : va_G) (cI cB cP : ClassId) (a0 : Nat) (n : Nat) (F : Nat → Nat) (a1 : Nat) (G : Nat → Nat) (hn : n < 2 ^ 31)  : zWv (S := Unit) l D cI cB cP yX10_copy wsX10_copy rm_X10_copy_n [.ref a0, .ref a1] [(a1, .inl (cI, n, .inl (fun q_ => nI (G q_))))] ([(a0, .inl (cI, n, .inl (fun q_ => nI (F q_))))]) (fun _ => True) (fun u => [(a1, .inl (cI, n, .inl (fun q_ => nI (F q_))))]) := by
  refine zWv_of (cc := cX10_copy) (maxL := 3) (by decide) rfl (Nat.le_of_ble_eq_true rfl) ?_
  intro p e s m args below meth c ls Q A H locs hx hb hml hts hown hP hD hS hA hRk hRA hK hN hl hret
  have hown : s.vm.findClass RX10 = some m.cls := hown
  have hl : lv_has ls 3 [(0, .ref a0), (1, .ref a1)] := hl
  refine lv_iconst (v := 0) hx hb dX10_copy_0 (by decide) ?_
  refine lv_istore_n (lv' := [(2, .int 0), (0, .ref a0), (1, .ref a1)]) hx hb dX10_copy_1 rfl hl (by decide) rfl (fun ls hl => ?_)
  have loop_2 : ∀ (fu_2 : Nat) (g : Nat → Nat) (i : Nat), (i ≤ n) → (∀ j, j < i → g j = F j) → n - i < fu_2 → ∀ (ls : Array Slot) (H : Heap) (locs : List Loc), va_P D vwCl [(a1, .inl (cI, n, .inl (fun q_ => nI (g q_))))] H → va_D A [(a1, .inl (cI, n, .inl (fun q_ => nI (g q_))))] → va_S A s.heap H locs → lv_has ls 3 [(2, .int (nI i)), (0, .ref a0), (1, .ref a1)] → W p l e rm_X10_copy_n s m args below meth c H locs 0 0 Q (F0 m 2 ls []) := by
    intro fu_2
    induction fu_2 with
    | zero => intro g i hi hg hn_2; exact absurd hn_2 (by omega)
    | succ fu_2 ih_2 =>
      intro g i hi hg hn_2 ls H locs hP hD hS hl
      refine lv_iload_n hx hb dX10_copy_2 rfl (lv_at hl 0 rfl) ?_
      refine lv_aload_n hx hb dX10_copy_3 rfl (lv_at hl 1 rfl) ?_
      refine va_alen hx hb hK (hRk _ _ hS) 0 0 rfl rfl (v := nI n) rfl dX10_copy_4 ?_
      refine lv_icmp_ge (tgt := 26) hx hb dX10_copy_5 (by decide) (fun c_1 => ?_) (fun c_1 => ?_)
      · skip
        have c_1 : n ≤ i := (nI_leI (a := n) (b := i) (by omega) (by omega)).mp c_1
        have hD := z_Dext (i := 0) (g := fun q_ => nI (F q_)) hD rfl
        have hP := z_Pext (i := 0) (g := fun q_ => nI (F q_)) hP rfl (fun j hj => congrArg nI (hg j (by omega)))
        have hP : va_P D vwCl [(a1, .inl (cI, n, .inl (fun q_ => nI (F q_))))] H := hP
        have hD : va_D A [(a1, .inl (cI, n, .inl (fun q_ => nI (F q_))))] := hD
        exact hret _ _ (()) _ _ dX10_copy_26 trivial hP hD hS
      · skip
        have c_1 : ¬ (n ≤ i) := (not_congr (nI_leI (a := n) (b := i) (by omega) (by omega))).mp c_1
        refine lv_iload_n hx hb dX10_copy_8 rfl (lv_at hl 0 rfl) ?_
        refine lv_aload_n hx hb dX10_copy_9 rfl (lv_at hl 2 rfl) ?_
        refine va_alen hx hb hK hP 0 0 rfl rfl (v := nI n) rfl dX10_copy_10 ?_
        refine lv_icmp_ge (tgt := 26) hx hb dX10_copy_11 (by decide) (fun c_2 => ?_) (fun c_2 => ?_)
        · skip
          have c_2 : n ≤ i := (nI_leI (a := n) (b := i) (by omega) (by omega)).mp c_2
          exact absurd c_2 (by omega)
        · skip
          have c_2 : ¬ (n ≤ i) := (not_congr (nI_leI (a := n) (b := i) (by omega) (by omega))).mp c_2
          refine lv_aload_n hx hb dX10_copy_14 rfl (lv_at hl 2 rfl) ?_
          refine lv_iload_n hx hb dX10_copy_15 rfl (lv_at hl 0 rfl) ?_
          refine lv_aload_n hx hb dX10_copy_16 rfl (lv_at hl 1 rfl) ?_
          refine lv_iload_n hx hb dX10_copy_17 rfl (lv_at hl 0 rfl) ?_
          refine va_iald hx hb hK (hRk _ _ hS) 0 0 rfl rfl (vp_in_nI (by omega) (by omega)) dX10_copy_18 ?_
          refine z_top (y := nI (F i)) (z_ld (f := fun q_ => nI (F q_)) (a := i) (by omega) rfl) ?_
          refine va_iast hx hb hK hP hD hS 0 0 rfl rfl (vp_in_nI (by omega) (by omega)) dX10_copy_19 (fun H locs hP hD hS => ?_)
          have eN := zst g i (F i) (by omega)
          have hP : va_P D vwCl [(a1, .inl (cI, n, .inl (fun q_ => nI ((va_up g i (F i)) q_))))] H := by rw [← eN]; exact hP
          have hD : va_D A [(a1, .inl (cI, n, .inl (fun q_ => nI ((va_up g i (F i)) q_))))] := by rw [← eN]; exact hD
          refine lv_iinc (v := nI (i + 1)) (lv' := [(2, .int (nI (i + 1))), (0, .ref a0), (1, .ref a1)]) hx hb dX10_copy_20 hl (k := 0) rfl (nI_add (i) 1) (by decide) rfl (fun ls hl => ?_)
          refine lv_goto (tgt := 2) hx hb dX10_copy_23 (by decide) ?_
          exact ih_2 (va_up g i (F i)) (i + 1) (by omega) (fun j hj => by by_cases e : j = i <;> simp [va_up, e]; exact hg j (by omega)) (by omega) ls _ _ hP hD hS hl
  exact loop_2 _ G 0 (Nat.zero_le _) (fun j hj => absurd hj (by omega)) (Nat.lt_succ_self _) ls _ _ hP hD hS hl

abbrev rm_X10_copy_f : Room := { frames := 0, cells := 0, slots := 0, locals := 0 }
set_option maxHeartbeats 4000000 in
set_option maxRecDepth 100000 in
theorem c_X10_copy_f (l : Launch) (D : va_G) (cI cB cP : ClassId) (a0 : Nat) (n : Nat) (F : Nat → Int32) (a1 : Nat) (G : Nat → Int32) (hn : n < 2 ^ 31)  : zWv (S := Unit) l D cI cB cP yX10_copy wsX10_copy rm_X10_copy_f [.ref a0, .ref a1] [(a1, .inl (cI, n, .inl (G)))] ([(a0, .inl (cI, n, .inl (F)))]) (fun _ => True) (fun u => [(a1, .inl (cI, n, .inl (F)))]) := by
  refine zWv_of (cc := cX10_copy) (maxL := 3) (by decide) rfl (Nat.le_of_ble_eq_true rfl) ?_
  intro p e s m args below meth c ls Q A H locs hx hb hml hts hown hP hD hS hA hRk hRA hK hN hl hret
  have hown : s.vm.findClass RX10 = some m.cls := hown
  have hl : lv_has ls 3 [(0, .ref a0), (1, .ref a1)] := hl
  refine lv_iconst (v := 0) hx hb dX10_copy_0 (by decide) ?_
  refine lv_istore_n (lv' := [(2, .int 0), (0, .ref a0), (1, .ref a1)]) hx hb dX10_copy_1 rfl hl (by decide) rfl (fun ls hl => ?_)
  have loop_2 : ∀ (fu_2 : Nat) (g : Nat → Int32) (i : Nat), (i ≤ n) → (∀ j, j < i → g j = F j) → n - i < fu_2 → ∀ (ls : Array Slot) (H : Heap) (locs : List Loc), va_P D vwCl [(a1, .inl (cI, n, .inl (g)))] H → va_D A [(a1, .inl (cI, n, .inl (g)))] → va_S A s.heap H locs → lv_has ls 3 [(2, .int (nI i)), (0, .ref a0), (1, .ref a1)] → W p l e rm_X10_copy_f s m args below meth c H locs 0 0 Q (F0 m 2 ls []) := by
    intro fu_2
    induction fu_2 with
    | zero => intro g i hi hg hn_2; exact absurd hn_2 (by omega)
    | succ fu_2 ih_2 =>
      intro g i hi hg hn_2 ls H locs hP hD hS hl
      refine lv_iload_n hx hb dX10_copy_2 rfl (lv_at hl 0 rfl) ?_
      refine lv_aload_n hx hb dX10_copy_3 rfl (lv_at hl 1 rfl) ?_
      refine va_alen hx hb hK (hRk _ _ hS) 0 0 rfl rfl (v := nI n) rfl dX10_copy_4 ?_
      refine lv_icmp_ge (tgt := 26) hx hb dX10_copy_5 (by decide) (fun c_1 => ?_) (fun c_1 => ?_)
      · skip
        have c_1 : n ≤ i := (nI_leI (a := n) (b := i) (by omega) (by omega)).mp c_1
        have hD := z_Dext (i := 0) (g := F) hD rfl
        have hP := z_Pext (i := 0) (g := F) hP rfl (fun j hj => hg j (by omega))
        have hP : va_P D vwCl [(a1, .inl (cI, n, .inl (F)))] H := hP
        have hD : va_D A [(a1, .inl (cI, n, .inl (F)))] := hD
        exact hret _ _ (()) _ _ dX10_copy_26 trivial hP hD hS
      · skip
        have c_1 : ¬ (n ≤ i) := (not_congr (nI_leI (a := n) (b := i) (by omega) (by omega))).mp c_1
        refine lv_iload_n hx hb dX10_copy_8 rfl (lv_at hl 0 rfl) ?_
        refine lv_aload_n hx hb dX10_copy_9 rfl (lv_at hl 2 rfl) ?_
        refine va_alen hx hb hK hP 0 0 rfl rfl (v := nI n) rfl dX10_copy_10 ?_
        refine lv_icmp_ge (tgt := 26) hx hb dX10_copy_11 (by decide) (fun c_2 => ?_) (fun c_2 => ?_)
        · skip
          have c_2 : n ≤ i := (nI_leI (a := n) (b := i) (by omega) (by omega)).mp c_2
          exact absurd c_2 (by omega)
        · skip
          have c_2 : ¬ (n ≤ i) := (not_congr (nI_leI (a := n) (b := i) (by omega) (by omega))).mp c_2
          refine lv_aload_n hx hb dX10_copy_14 rfl (lv_at hl 2 rfl) ?_
          refine lv_iload_n hx hb dX10_copy_15 rfl (lv_at hl 0 rfl) ?_
          refine lv_aload_n hx hb dX10_copy_16 rfl (lv_at hl 1 rfl) ?_
          refine lv_iload_n hx hb dX10_copy_17 rfl (lv_at hl 0 rfl) ?_
          refine va_iald hx hb hK (hRk _ _ hS) 0 0 rfl rfl (vp_in_nI (by omega) (by omega)) dX10_copy_18 ?_
          refine z_top (y := F i) (z_ld (f := F) (a := i) (by omega) rfl) ?_
          refine va_iast hx hb hK hP hD hS 0 0 rfl rfl (vp_in_nI (by omega) (by omega)) dX10_copy_19 (fun H locs hP hD hS => ?_)
          have eN := zsti (g) i (F i) (by omega)
          have hP : va_P D vwCl [(a1, .inl (cI, n, .inl (upd (g) i (F i))))] H := by rw [← eN]; exact hP
          have hD : va_D A [(a1, .inl (cI, n, .inl (upd (g) i (F i))))] := by rw [← eN]; exact hD
          refine lv_iinc (v := nI (i + 1)) (lv' := [(2, .int (nI (i + 1))), (0, .ref a0), (1, .ref a1)]) hx hb dX10_copy_20 hl (k := 0) rfl (nI_add (i) 1) (by decide) rfl (fun ls hl => ?_)
          refine lv_goto (tgt := 2) hx hb dX10_copy_23 (by decide) ?_
          exact ih_2 (upd (g) i (F i)) (i + 1) (by omega) (fun j hj => by by_cases e : j = i <;> simp [upd, e]; exact hg j (by omega)) (by omega) ls _ _ hP hD hS hl
  exact loop_2 _ G 0 (Nat.zero_le _) (fun j hj => absurd hj (by omega)) (Nat.lt_succ_self _) ls _ _ hP hD hS hl
