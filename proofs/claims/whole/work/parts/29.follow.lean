/-- the sets of lessons failed that come to the stripes asked for -/
def zFl (w k lim le : Nat) (hard blows : Nat → Nat) (goal : Int32) : Nat → Nat → Nat → Int32 → Nat → List Nat
  | 0, _, _, st, failed => if st = goal then [failed] else []
  | d + 1, i, f, st, failed => if le / 2 ^ i % 2 = 1 then zFl w k lim le hard blows goal d (i + 1) f st failed
    else (if 0 < zTen w k f (hard i) then zFl w k lim le hard blows goal d (i + 1) f st failed else [])
      ++ (if zTen w k f (hard i) < 10 then zFl w k lim le hard blows goal d (i + 1) (zFond f (st + nI (blows i)) lim) (st + nI (blows i)) (failed ||| 2 ^ i) else [])
def zAnd (a : Int32) (L : List Nat) : Int32 := L.foldl (fun a x => a &&& nI x) a
theorem zAnd_app {a : Int32} {L M : List Nat} : zAnd a (L ++ M) = zAnd (zAnd a L) M := by unfold zAnd; rw [List.foldl_append]
theorem zFl_len {w k lim le : Nat} {hard blows : Nat → Nat} {goal : Int32} : ∀ (d i f : Nat) (st : Int32) (failed : Nat), (zFl w k lim le hard blows goal d i f st failed).length ≤ 2 ^ d := by
  intro d
  induction d with
  | zero => intro i f st failed; rw [zFl]; split <;> simp
  | succ d ih =>
    intro i f st failed
    have h1 := ih (i + 1) f st failed
    have h2 := ih (i + 1) (zFond f (st + nI (blows i)) lim) (st + nI (blows i)) (failed ||| 2 ^ i)
    have h3 : 2 ^ (d + 1) = 2 ^ d + 2 ^ d := by rw [Nat.pow_succ]; omega
    rw [zFl]
    split
    · omega
    · rw [List.length_append]
      have a1 : (if 0 < zTen w k f (hard i) then zFl w k lim le hard blows goal d (i + 1) f st failed else []).length ≤ 2 ^ d := by
        split
        · exact h1
        · exact Nat.zero_le _
      have a2 : (if zTen w k f (hard i) < 10 then zFl w k lim le hard blows goal d (i + 1) (zFond f (st + nI (blows i)) lim) (st + nI (blows i)) (failed ||| 2 ^ i) else []).length ≤ 2 ^ d := by
        split
        · exact h2
        · exact Nat.zero_le _
      omega
abbrev rmF (d : Nat) : Room := { frames := 10 + d, cells := 0, slots := 0, locals := 300 + 60 * d }
theorem zi_X0_follow_X0 : ∀ w ∈ wsX00, w ∈ wsX0_follow := fun _ h => List.mem_cons_of_mem _ (List.mem_append_left _ (List.mem_append_left _ (List.mem_append_left _ (List.mem_append_left _ (List.mem_append_left _ (List.mem_append_right _ (h)))))))
theorem zi_X0_follow_X9 : ∀ w ∈ wsX90, w ∈ wsX0_follow := fun _ h => List.mem_cons_of_mem _ (List.mem_append_left _ (List.mem_append_left _ (List.mem_append_left _ (List.mem_append_left _ (List.mem_append_left _ (List.mem_append_left _ (List.mem_append_right _ (h))))))))
set_option maxHeartbeats 4000000 in
set_option maxRecDepth 100000 in
theorem c_X0_follow_z (l : Launch) (D : va_G) (cI cB cP : ClassId) (h0 : Nat) (q_tx : Nat) (le : Nat) (goal : Int32) (t1 : Nat) (t2 : Nat) (lessons : Nat) (limit : Nat) (hard : Nat → Nat) (blows : Nat → Nat) (w0 : Nat) (kk : Nat) (wit : Nat) (sets : Nat) (ia : Int32) (i : Nat) (f : Nat) (st : Int32) (failed : Nat) (hkk : kk < 5) (hwit : wit ≤ 9) (hha : ∀ i, hard i ≤ 9) (hls : lessons ≤ 5) (htk : le < 32) (hpl : i + 0 = lessons) (hf : f ≤ 9) (hfa : failed < 32)  : zWv (S := Unit) l D cI cB cP yX0_follow wsX0_follow (rmF (0)) [.ref h0, .ref q_tx, .ref w0, .int (nI i), .int (nI f), .int st, .int (nI failed)] [(h0, .inr (0, [.int (nI le), .int goal, .int (nI sets), .int ia]))] ([(q_tx, .inr (9, [.ref t1, .ref t2, .int (nI lessons), .int (nI limit)])), (t1, .inl (cI, 5, .inl (fun q_ => nI (hard q_)))), (t2, .inl (cI, 5, .inl (fun q_ => nI (blows q_)))), (w0, .inr (zKi kk, [.int (nI wit)]))]) (fun _ => True) (fun u => [(h0, .inr (0, [.int (nI le), .int goal, .int (nI (sets + (zFl wit kk limit le hard blows goal (0) i f st failed).length)), .int (zAnd ia (zFl wit kk limit le hard blows goal (0) i f st failed))]))]) := by
  refine zWv_of (cc := cX0_follow) (maxL := 10) (by decide) rfl (Nat.le_of_ble_eq_true rfl) ?_
  intro p e s m args below meth c ls Q A H locs hx hb hml hts hown hP hD hS hA hRk hRA hK hN hl hret
  have hown : s.vm.findClass RX0 = some m.cls := hown
  have hl : lv_has ls 10 [(0, .ref h0), (1, .ref q_tx), (2, .ref w0), (3, .int (nI i)), (4, .int (nI f)), (5, .int st), (6, .int (nI failed))] := hl
  refine lv_iload_n hx hb dX0_follow_0 rfl (lv_at hl 3 rfl) ?_
  refine lv_aload_n hx hb dX0_follow_1 rfl (lv_at hl 1 rfl) ?_
  refine va_getN (D := D) (ci := 9) (v := .int (nI lessons)) (C := RX9) (T := TX9) (N := 4) hx hb hts zi_X0_follow_X9 hown hK (hRk _ _ hS) 0 rfl rfl 2 (by decide) (hN.w (w := .fieldLinkNest RX0 26 "BeatenInstead$Text" "lessons" "I" "BeatenInstead") 3 rfl rfl) (fun _ h9 => h9) rfl dX0_follow_2 ?_
  refine lv_icmp_lt (tgt := 39) hx hb dX0_follow_5 (by decide) (fun c_1 => ?_) (fun c_1 => ?_)
  · skip
    have c_1 : i < lessons := (nI_ltI (a := i) (b := lessons) (by omega) (by omega)).mp c_1
    exact absurd hpl (by omega)
  · skip
    have c_1 : ¬ (i < lessons) := (not_congr (nI_ltI (a := i) (b := lessons) (by omega) (by omega))).mp c_1
    refine lv_iload hx hb dX0_follow_8 (lv_at hl 5 rfl) ?_
    refine lv_aload_n hx hb dX0_follow_10 rfl (lv_at hl 0 rfl) ?_
    refine va_get (D := D) (ci := 0) (v := .int goal) (C := RX0) (T := TX0) (N := 4) hx hb hts zi_X0_follow_X0 hown hK hP 0 rfl rfl 1 (by decide) (hts (.fieldLink RX0 13 "BeatenInstead$Blame" "goal" "I") (List.mem_of_getElem? (i := 1) rfl)) (fun _ h9 => h9) rfl dX0_follow_11 ?_
    refine lv_icmp_ne (tgt := 38) hx hb dX0_follow_14 (by decide) (fun c_2 => ?_) (fun c_2 => ?_)
    · skip
      have eW : ([(h0, .inr (0, [.int (nI le), .int goal, .int (nI (sets + (zFl wit kk limit le hard blows goal (0) i f st failed).length)), .int (zAnd ia (zFl wit kk limit le hard blows goal (0) i f st failed))]))] : va_W) = [(h0, .inr (0, [.int (nI le), .int goal, .int (nI sets), .int ia]))] := by rw [zFl, if_neg c_2]; rfl
      exact hret _ _ (()) _ _ dX0_follow_38 trivial (Eq.mpr (congrArg (fun w => va_P D vwCl w H) eW) hP) (Eq.mpr (congrArg (fun w => va_D A w) eW) hD) hS
    · skip
      refine lv_aload_n hx hb dX0_follow_17 rfl (lv_at hl 0 rfl) ?_
      refine lv_dup hx hb dX0_follow_18 rfl ?_
      refine va_get (D := D) (ci := 0) (v := .int (nI sets)) (C := RX0) (T := TX0) (N := 4) hx hb hts zi_X0_follow_X0 hown hK hP 0 rfl rfl 2 (by decide) (hts (.fieldLink RX0 16 "BeatenInstead$Blame" "sets" "I") (List.mem_of_getElem? (i := 2) rfl)) (fun _ h9 => h9) rfl dX0_follow_19 ?_
      refine lv_iconst (v := 1) hx hb dX0_follow_22 (by decide) ?_
      refine lv_iadd hx hb dX0_follow_23 ?_
      refine z_top (show ((nI sets) + 1) = nI (sets + 1) from nI_add sets 1) ?_
      refine va_put (D := D) (ci := 0) (v := .int (nI (sets + 1))) (ty := .int) (C := RX0) (T := TX0) (N := 4) hx hb hts zi_X0_follow_X0 tyX0 tyX0_ok nmX0 hown hK hP hD hS 0 rfl rfl 2 (by decide) (hts (.fieldLink RX0 16 "BeatenInstead$Blame" "sets" "I") (List.mem_of_getElem? (i := 2) rfl)) (fun _ h9 => h9) rfl rfl rfl rfl (Nat.le_of_ble_eq_true rfl) dX0_follow_24 (fun H locs hP hD hS => ?_)
      have hP : va_P D vwCl [(h0, .inr (0, [.int (nI le), .int goal, .int (nI (sets + 1)), .int ia]))] H := hP
      have hD : va_D A [(h0, .inr (0, [.int (nI le), .int goal, .int (nI (sets + 1)), .int ia]))] := hD
      refine lv_aload_n hx hb dX0_follow_27 rfl (lv_at hl 0 rfl) ?_
      refine lv_dup hx hb dX0_follow_28 rfl ?_
      refine va_get (D := D) (ci := 0) (v := .int ia) (C := RX0) (T := TX0) (N := 4) hx hb hts zi_X0_follow_X0 hown hK hP 0 rfl rfl 3 (by decide) (hts (.fieldLink RX0 19 "BeatenInstead$Blame" "inAll" "I") (List.mem_of_getElem? (i := 3) rfl)) (fun _ h9 => h9) rfl dX0_follow_29 ?_
      refine lv_iload hx hb dX0_follow_32 (lv_at hl 6 rfl) ?_
      refine lv_iand hx hb dX0_follow_34 ?_
      refine va_put (D := D) (ci := 0) (v := .int (ia &&& (nI failed))) (ty := .int) (C := RX0) (T := TX0) (N := 4) hx hb hts zi_X0_follow_X0 tyX0 tyX0_ok nmX0 hown hK hP hD hS 0 rfl rfl 3 (by decide) (hts (.fieldLink RX0 19 "BeatenInstead$Blame" "inAll" "I") (List.mem_of_getElem? (i := 3) rfl)) (fun _ h9 => h9) rfl rfl rfl rfl (Nat.le_of_ble_eq_true rfl) dX0_follow_35 (fun H locs hP hD hS => ?_)
      have hP : va_P D vwCl [(h0, .inr (0, [.int (nI le), .int goal, .int (nI (sets + 1)), .int (ia &&& (nI failed))]))] H := hP
      have hD : va_D A [(h0, .inr (0, [.int (nI le), .int goal, .int (nI (sets + 1)), .int (ia &&& (nI failed))]))] := hD
      have eW : ([(h0, .inr (0, [.int (nI le), .int goal, .int (nI (sets + (zFl wit kk limit le hard blows goal (0) i f st failed).length)), .int (zAnd ia (zFl wit kk limit le hard blows goal (0) i f st failed))]))] : va_W) = [(h0, .inr (0, [.int (nI le), .int goal, .int (nI (sets + 1)), .int (ia &&& (nI failed))]))] := by rw [zFl, if_pos c_2]; rfl
      exact hret _ _ (()) _ _ dX0_follow_38 trivial (Eq.mpr (congrArg (fun w => va_P D vwCl w H) eW) hP) (Eq.mpr (congrArg (fun w => va_D A w) eW) hD) hS

set_option maxHeartbeats 4000000 in
set_option maxRecDepth 100000 in
theorem c_X0_follow_s (l : Launch) (D : va_G) (cI cB cP : ClassId) (h0 : Nat) (q_tx : Nat) (le : Nat) (goal : Int32) (t1 : Nat) (t2 : Nat) (lessons : Nat) (limit : Nat) (hard : Nat → Nat) (blows : Nat → Nat) (w0 : Nat) (kk : Nat) (wit : Nat) (sets : Nat) (ia : Int32) (i : Nat) (f : Nat) (st : Int32) (failed : Nat) (d : Nat) (hkk : kk < 5) (hwit : wit ≤ 9) (hha : ∀ i, hard i ≤ 9) (hls : lessons ≤ 5) (htk : le < 32) (hpl : i + (d + 1) = lessons) (hf : f ≤ 9) (hfa : failed < 32) (ih : ∀ (sets : Nat) (ia : Int32) (i : Nat) (f : Nat) (st : Int32) (failed : Nat) (hpl : i + d = lessons) (hf : f ≤ 9) (hfa : failed < 32), zWv (S := Unit) l D cI cB cP yX0_follow wsX0_follow (rmF d) [.ref h0, .ref q_tx, .ref w0, .int (nI i), .int (nI f), .int st, .int (nI failed)] [(h0, .inr (0, [.int (nI le), .int goal, .int (nI sets), .int ia]))] ([(q_tx, .inr (9, [.ref t1, .ref t2, .int (nI lessons), .int (nI limit)])), (t1, .inl (cI, 5, .inl (fun q_ => nI (hard q_)))), (t2, .inl (cI, 5, .inl (fun q_ => nI (blows q_)))), (w0, .inr (zKi kk, [.int (nI wit)]))]) (fun _ => True) (fun u => [(h0, .inr (0, [.int (nI le), .int goal, .int (nI (sets + (zFl wit kk limit le hard blows goal (d) i f st failed).length)), .int (zAnd ia (zFl wit kk limit le hard blows goal (d) i f st failed))]))])) : zWv (S := Unit) l D cI cB cP yX0_follow wsX0_follow (rmF (d + 1)) [.ref h0, .ref q_tx, .ref w0, .int (nI i), .int (nI f), .int st, .int (nI failed)] [(h0, .inr (0, [.int (nI le), .int goal, .int (nI sets), .int ia]))] ([(q_tx, .inr (9, [.ref t1, .ref t2, .int (nI lessons), .int (nI limit)])), (t1, .inl (cI, 5, .inl (fun q_ => nI (hard q_)))), (t2, .inl (cI, 5, .inl (fun q_ => nI (blows q_)))), (w0, .inr (zKi kk, [.int (nI wit)]))]) (fun _ => True) (fun u => [(h0, .inr (0, [.int (nI le), .int goal, .int (nI (sets + (zFl wit kk limit le hard blows goal (d + 1) i f st failed).length)), .int (zAnd ia (zFl wit kk limit le hard blows goal (d + 1) i f st failed))]))]) := by
  refine zWv_of (cc := cX0_follow) (maxL := 10) (by decide) rfl (Nat.le_of_ble_eq_true rfl) ?_
  intro p e s m args below meth c ls Q A H locs hx hb hml hts hown hP hD hS hA hRk hRA hK hN hl hret
  have hown : s.vm.findClass RX0 = some m.cls := hown
  have hl : lv_has ls 10 [(0, .ref h0), (1, .ref q_tx), (2, .ref w0), (3, .int (nI i)), (4, .int (nI f)), (5, .int st), (6, .int (nI failed))] := hl
  refine lv_iload_n hx hb dX0_follow_0 rfl (lv_at hl 3 rfl) ?_
  refine lv_aload_n hx hb dX0_follow_1 rfl (lv_at hl 1 rfl) ?_
  refine va_getN (D := D) (ci := 9) (v := .int (nI lessons)) (C := RX9) (T := TX9) (N := 4) hx hb hts zi_X0_follow_X9 hown hK (hRk _ _ hS) 0 rfl rfl 2 (by decide) (hN.w (w := .fieldLinkNest RX0 26 "BeatenInstead$Text" "lessons" "I" "BeatenInstead") 3 rfl rfl) (fun _ h9 => h9) rfl dX0_follow_2 ?_
  refine lv_icmp_lt (tgt := 39) hx hb dX0_follow_5 (by decide) (fun c_1 => ?_) (fun c_1 => ?_)
  · skip
    have c_1 : i < lessons := (nI_ltI (a := i) (b := lessons) (by omega) (by omega)).mp c_1
    refine lv_aload_n hx hb dX0_follow_39 rfl (lv_at hl 0 rfl) ?_
    refine va_get (D := D) (ci := 0) (v := .int (nI le)) (C := RX0) (T := TX0) (N := 4) hx hb hts zi_X0_follow_X0 hown hK hP 0 rfl rfl 0 (by decide) (hts (.fieldLink RX0 7 "BeatenInstead$Blame" "learnt" "I") (List.mem_of_getElem? (i := 4) rfl)) (fun _ h9 => h9) rfl dX0_follow_40 ?_
    refine lv_iload_n hx hb dX0_follow_43 rfl (lv_at hl 3 rfl) ?_
    refine vp_callSi (z_runSN (As := [.int (nI le), .int (nI i)]) (rest := []) hx hb hml hown hts hK hN hl.1 (c_X10_isIn l D cI cB cP le i (by omega) (by omega)) gX0_follow_X10_isIn_n31 rfl 64 rfl (List.mem_of_getElem? (i := 6) rfl) (List.mem_of_getElem? (i := 5) rfl) zd_X10_isIn rfl (by simp only [rmF]; omega) (by simp only [rmF]; omega) z_p0 rfl (Nat.le_of_ble_eq_true rfl) dX0_follow_44 ⟨Nat.zero_le _, Nat.zero_le _⟩) (fun r hr => ?_)
    rcases hr with ⟨rfl, c_2⟩ | ⟨rfl, c_2⟩
    · skip
      refine lv_if_eq (tgt := 66) hx hb dX0_follow_47 (by decide) (fun c => absurd c (by decide)) (fun _ => ?_)
      refine lv_aload_n hx hb dX0_follow_50 rfl (lv_at hl 0 rfl) ?_
      refine lv_aload_n hx hb dX0_follow_51 rfl (lv_at hl 1 rfl) ?_
      refine lv_aload_n hx hb dX0_follow_52 rfl (lv_at hl 2 rfl) ?_
      refine lv_iload_n hx hb dX0_follow_53 rfl (lv_at hl 3 rfl) ?_
      refine lv_iconst (v := 1) hx hb dX0_follow_54 (by decide) ?_
      refine lv_iadd hx hb dX0_follow_55 ?_
      refine z_top (show ((nI i) + 1) = nI (i + 1) from nI_add i 1) ?_
      refine lv_iload hx hb dX0_follow_56 (lv_at hl 4 rfl) ?_
      refine lv_iload hx hb dX0_follow_58 (lv_at hl 5 rfl) ?_
      refine lv_iload hx hb dX0_follow_60 (lv_at hl 6 rfl) ?_
      refine z_wv (Fn := fun u => [(h0, .inr (0, [.int (nI le), .int goal, .int (nI (sets + (zFl wit kk limit le hard blows goal (d) (i + 1) f st failed).length)), .int (zAnd ia (zFl wit kk limit le hard blows goal (d) (i + 1) f st failed))]))]) (z_wrunV (b := h0) (As := [.ref q_tx, .ref w0, .int (nI (i + 1)), .int (nI f), .int st, .int (nI failed)]) (rest := []) hx hb hml hown hts hK hN hl.1 (ih sets ia (i + 1) f st failed (by omega) (by first | exact hf | exact zFond_le hf) (by first | exact hfa | exact z_or_lt _ hfa _ (by omega))) gX0_follow_X0_follow rfl zd_X0_follow rfl (by simp only [rmF]; omega) (by simp only [rmF]; omega) (hP.sub (ws' := [(h0, .inr (0, [.int (nI le), .int goal, .int (nI sets), .int ia]))]) [0] rfl) (hD.sub (ws' := [(h0, .inr (0, [.int (nI le), .int goal, .int (nI sets), .int ia]))]) [0] rfl rfl) (va_P.sub (ws' := [(q_tx, .inr (9, [.ref t1, .ref t2, .int (nI lessons), .int (nI limit)])), (t1, .inl (cI, 5, .inl (fun q_ => nI (hard q_)))), (t2, .inl (cI, 5, .inl (fun q_ => nI (blows q_)))), (w0, .inr (zKi kk, [.int (nI wit)]))]) (hRk _ _ hS) [0, 1, 2, 3] rfl) (List.forall_mem_cons.mpr ⟨z_sepR hRA (va_free (wc := [(h0, .inr (0, [.int (nI le), .int goal, .int (nI sets), .int ia]))]) hD hS hA [0] rfl) (List.mem_of_getElem? (i := 0) rfl), (List.forall_mem_cons.mpr ⟨z_sepR hRA (va_free (wc := [(h0, .inr (0, [.int (nI le), .int goal, .int (nI sets), .int ia]))]) hD hS hA [0] rfl) (List.mem_of_getElem? (i := 1) rfl), (List.forall_mem_cons.mpr ⟨z_sepR hRA (va_free (wc := [(h0, .inr (0, [.int (nI le), .int goal, .int (nI sets), .int ia]))]) hD hS hA [0] rfl) (List.mem_of_getElem? (i := 2) rfl), (List.forall_mem_cons.mpr ⟨z_sepR hRA (va_free (wc := [(h0, .inr (0, [.int (nI le), .int goal, .int (nI sets), .int ia]))]) hD hS hA [0] rfl) (List.mem_of_getElem? (i := 3) rfl), (fun _ h => absurd h List.not_mem_nil)⟩)⟩)⟩)⟩) (va_recv hK hP (ci := 0) (q0 := 0) rfl rfl) rfl (Nat.le_of_ble_eq_true rfl) dX0_follow_62 ⟨Nat.zero_le _, Nat.zero_le _⟩) hP hD hS hA [0] rfl (fun _ => rfl) (fun _ => rfl) (fun u H locs hr hP hD hS => ?_)
      have hP : va_P D vwCl [(h0, .inr (0, [.int (nI le), .int goal, .int (nI (sets + (zFl wit kk limit le hard blows goal (d) (i + 1) f st failed).length)), .int (zAnd ia (zFl wit kk limit le hard blows goal (d) (i + 1) f st failed))]))] H := hP
      have hD : va_D A [(h0, .inr (0, [.int (nI le), .int goal, .int (nI (sets + (zFl wit kk limit le hard blows goal (d) (i + 1) f st failed).length)), .int (zAnd ia (zFl wit kk limit le hard blows goal (d) (i + 1) f st failed))]))] := hD
      have eW : ([(h0, .inr (0, [.int (nI le), .int goal, .int (nI (sets + (zFl wit kk limit le hard blows goal (d + 1) i f st failed).length)), .int (zAnd ia (zFl wit kk limit le hard blows goal (d + 1) i f st failed))]))] : va_W) = [(h0, .inr (0, [.int (nI le), .int goal, .int (nI (sets + (zFl wit kk limit le hard blows goal (d) (i + 1) f st failed).length)), .int (zAnd ia (zFl wit kk limit le hard blows goal (d) (i + 1) f st failed))]))] := by rw [zFl, if_pos c_2]
      exact hret _ _ (()) _ _ dX0_follow_65 trivial (Eq.mpr (congrArg (fun w => va_P D vwCl w H) eW) hP) (Eq.mpr (congrArg (fun w => va_D A w) eW) hD) hS
    · skip
      refine lv_if_eq (tgt := 66) hx hb dX0_follow_47 (by decide) (fun _ => ?_) (fun c => absurd c (by decide))
      refine lv_aload_n hx hb dX0_follow_66 rfl (lv_at hl 1 rfl) ?_
      refine lv_aload_n hx hb dX0_follow_67 rfl (lv_at hl 2 rfl) ?_
      refine lv_iload hx hb dX0_follow_68 (lv_at hl 4 rfl) ?_
      refine lv_iload_n hx hb dX0_follow_70 rfl (lv_at hl 3 rfl) ?_
      refine vp_callSi (z_runVN (b := q_tx) (As := [.ref w0, .int (nI f), .int (nI i)]) (rest := []) hx hb hml hown hts hK hN hl.1 (c_X9_tenthsFor l D cI cB cP q_tx t1 t2 lessons limit hard w0 kk wit f i (by omega) (hkk) (hwit) (hf) (hha _)) gX0_follow_X9_tenthsFor_n37 rfl 65 rfl (List.mem_of_getElem? (i := 13) rfl) (List.mem_of_getElem? (i := 12) rfl) (List.mem_of_getElem? (i := 14) rfl) zd_X9_tenthsFor rfl (by simp only [rmF]; omega) (by simp only [rmF]; omega) (va_P.sub (ws' := [(q_tx, .inr (9, [.ref t1, .ref t2, .int (nI lessons), .int (nI limit)])), (t1, .inl (cI, 5, .inl (fun q_ => nI (hard q_)))), (w0, .inr (zKi kk, [.int (nI wit)]))]) (hRk _ _ hS) [0, 1, 3] rfl) (va_recv hK (hRk _ _ hS) (ci := 9) (q0 := 0) rfl rfl) rfl (Nat.le_of_ble_eq_true rfl) dX0_follow_71 ⟨Nat.zero_le _, Nat.zero_le _⟩) (fun r hr => ?_)
      subst hr
      refine lv_istore (lv' := [(7, .int (nI (zTen wit kk f (hard i)))), (0, .ref h0), (1, .ref q_tx), (2, .ref w0), (3, .int (nI i)), (4, .int (nI f)), (5, .int st), (6, .int (nI failed))]) hx hb dX0_follow_74 hl (by decide) rfl (fun ls hl => ?_)
      have hzt := @zTen_le wit kk f (hard i)
      refine lv_iload hx hb dX0_follow_76 (lv_at hl 0 rfl) ?_
      refine lv_iconst (v := 1) hx hb dX0_follow_78 (by decide) ?_
      refine vp_callSi (z_runSN (As := [.int (nI (zTen wit kk f (hard i))), .int 1]) (rest := []) hx hb hml hown hts hK hN hl.1 (c_X10_canBe l D cI cB cP (zTen wit kk f (hard i)) 1 (by omega) (by omega)) gX0_follow_X10_canBe_n41 rfl 66 rfl (List.mem_of_getElem? (i := 6) rfl) (List.mem_of_getElem? (i := 58) rfl) zd_X10_canBe rfl (by simp only [rmF]; omega) (by simp only [rmF]; omega) z_p0 rfl (Nat.le_of_ble_eq_true rfl) dX0_follow_79 ⟨Nat.zero_le _, Nat.zero_le _⟩) (fun r hr => ?_)
      rcases hr with ⟨rfl, c_3⟩ | ⟨rfl, c_3⟩
      · skip
        refine lv_if_eq (tgt := 100) hx hb dX0_follow_82 (by decide) (fun c => absurd c (by decide)) (fun _ => ?_)
        refine lv_aload_n hx hb dX0_follow_85 rfl (lv_at hl 1 rfl) ?_
        refine lv_aload_n hx hb dX0_follow_86 rfl (lv_at hl 2 rfl) ?_
        refine lv_aload_n hx hb dX0_follow_87 rfl (lv_at hl 3 rfl) ?_
        refine lv_iload_n hx hb dX0_follow_88 rfl (lv_at hl 4 rfl) ?_
        refine lv_iconst (v := 1) hx hb dX0_follow_89 (by decide) ?_
        refine lv_iadd hx hb dX0_follow_90 ?_
        refine z_top (show ((nI i) + 1) = nI (i + 1) from nI_add i 1) ?_
        refine lv_iload hx hb dX0_follow_91 (lv_at hl 5 rfl) ?_
        refine lv_iload hx hb dX0_follow_93 (lv_at hl 6 rfl) ?_
        refine lv_iload hx hb dX0_follow_95 (lv_at hl 7 rfl) ?_
        refine z_wv (Fn := fun u => [(h0, .inr (0, [.int (nI le), .int goal, .int (nI (sets + (zFl wit kk limit le hard blows goal (d) (i + 1) f st failed).length)), .int (zAnd ia (zFl wit kk limit le hard blows goal (d) (i + 1) f st failed))]))]) (z_wrunV (b := h0) (As := [.ref q_tx, .ref w0, .int (nI (i + 1)), .int (nI f), .int st, .int (nI failed)]) (rest := []) hx hb hml hown hts hK hN hl.1 (ih sets ia (i + 1) f st failed (by omega) (by first | exact hf | exact zFond_le hf) (by first | exact hfa | exact z_or_lt _ hfa _ (by omega))) gX0_follow_X0_follow rfl zd_X0_follow rfl (by simp only [rmF]; omega) (by simp only [rmF]; omega) (hP.sub (ws' := [(h0, .inr (0, [.int (nI le), .int goal, .int (nI sets), .int ia]))]) [0] rfl) (hD.sub (ws' := [(h0, .inr (0, [.int (nI le), .int goal, .int (nI sets), .int ia]))]) [0] rfl rfl) (va_P.sub (ws' := [(q_tx, .inr (9, [.ref t1, .ref t2, .int (nI lessons), .int (nI limit)])), (t1, .inl (cI, 5, .inl (fun q_ => nI (hard q_)))), (t2, .inl (cI, 5, .inl (fun q_ => nI (blows q_)))), (w0, .inr (zKi kk, [.int (nI wit)]))]) (hRk _ _ hS) [0, 1, 2, 3] rfl) (List.forall_mem_cons.mpr ⟨z_sepR hRA (va_free (wc := [(h0, .inr (0, [.int (nI le), .int goal, .int (nI sets), .int ia]))]) hD hS hA [0] rfl) (List.mem_of_getElem? (i := 0) rfl), (List.forall_mem_cons.mpr ⟨z_sepR hRA (va_free (wc := [(h0, .inr (0, [.int (nI le), .int goal, .int (nI sets), .int ia]))]) hD hS hA [0] rfl) (List.mem_of_getElem? (i := 1) rfl), (List.forall_mem_cons.mpr ⟨z_sepR hRA (va_free (wc := [(h0, .inr (0, [.int (nI le), .int goal, .int (nI sets), .int ia]))]) hD hS hA [0] rfl) (List.mem_of_getElem? (i := 2) rfl), (List.forall_mem_cons.mpr ⟨z_sepR hRA (va_free (wc := [(h0, .inr (0, [.int (nI le), .int goal, .int (nI sets), .int ia]))]) hD hS hA [0] rfl) (List.mem_of_getElem? (i := 3) rfl), (fun _ h => absurd h List.not_mem_nil)⟩)⟩)⟩)⟩) (va_recv hK hP (ci := 0) (q0 := 0) rfl rfl) rfl (Nat.le_of_ble_eq_true rfl) dX0_follow_97 ⟨Nat.zero_le _, Nat.zero_le _⟩) hP hD hS hA [0] rfl (fun _ => rfl) (fun _ => rfl) (fun u H locs hr hP hD hS => ?_)
        have hP : va_P D vwCl [(h0, .inr (0, [.int (nI le), .int goal, .int (nI (sets + (zFl wit kk limit le hard blows goal (d) (i + 1) f st failed).length)), .int (zAnd ia (zFl wit kk limit le hard blows goal (d) (i + 1) f st failed))]))] H := hP
        have hD : va_D A [(h0, .inr (0, [.int (nI le), .int goal, .int (nI (sets + (zFl wit kk limit le hard blows goal (d) (i + 1) f st failed).length)), .int (zAnd ia (zFl wit kk limit le hard blows goal (d) (i + 1) f st failed))]))] := hD
        refine lv_iload hx hb dX0_follow_100 (lv_at hl 0 rfl) ?_
        refine lv_iconst (v := 0) hx hb dX0_follow_102 (by decide) ?_
        refine vp_callSi (z_runSN (As := [.int (nI (zTen wit kk f (hard i))), .int 0]) (rest := []) hx hb hml hown hts hK hN hl.1 (c_X10_canBe l D cI cB cP (zTen wit kk f (hard i)) 0 (by omega) (by omega)) gX0_follow_X10_canBe_n41 rfl 66 rfl (List.mem_of_getElem? (i := 6) rfl) (List.mem_of_getElem? (i := 58) rfl) zd_X10_canBe rfl (by simp only [rmF]; omega) (by simp only [rmF]; omega) z_p0 rfl (Nat.le_of_ble_eq_true rfl) dX0_follow_103 ⟨Nat.zero_le _, Nat.zero_le _⟩) (fun r hr => ?_)
        rcases hr with ⟨rfl, c_4⟩ | ⟨rfl, c_4⟩
        · skip
          refine lv_if_eq (tgt := 151) hx hb dX0_follow_106 (by decide) (fun c => absurd c (by decide)) (fun _ => ?_)
          refine lv_iload hx hb dX0_follow_109 (lv_at hl 6 rfl) ?_
          refine lv_aload_n hx hb dX0_follow_111 rfl (lv_at hl 2 rfl) ?_
          refine lv_iload_n hx hb dX0_follow_112 rfl (lv_at hl 4 rfl) ?_
          refine vp_callSi (z_runVN (b := q_tx) (As := [.int (nI i)]) (rest := [.int st]) hx hb hml hown hts hK hN hl.1 (c_X9_blowsOf l D cI cB cP q_tx t1 t2 lessons limit blows i (by omega)) gX0_follow_X9_blowsOf_n45 rfl 67 rfl (List.mem_of_getElem? (i := 13) rfl) (List.mem_of_getElem? (i := 60) rfl) (List.mem_of_getElem? (i := 61) rfl) zd_X9_blowsOf rfl (by simp only [rmF]; omega) (by simp only [rmF]; omega) (va_P.sub (ws' := [(q_tx, .inr (9, [.ref t1, .ref t2, .int (nI lessons), .int (nI limit)])), (t2, .inl (cI, 5, .inl (fun q_ => nI (blows q_))))]) (hRk _ _ hS) [0, 2] rfl) (va_recv hK (hRk _ _ hS) (ci := 9) (q0 := 0) rfl rfl) rfl (Nat.le_of_ble_eq_true rfl) dX0_follow_113 ⟨Nat.zero_le _, Nat.zero_le _⟩) (fun r hr => ?_)
          subst hr
          refine lv_iadd hx hb dX0_follow_116 ?_
          refine lv_istore (lv' := [(8, .int (st + (nI (blows i)))), (7, .int (nI (zTen wit kk f (hard i)))), (0, .ref h0), (1, .ref q_tx), (2, .ref w0), (3, .int (nI i)), (4, .int (nI f)), (5, .int st), (6, .int (nI failed))]) hx hb dX0_follow_117 hl (by decide) rfl (fun ls hl => ?_)
          refine lv_iload hx hb dX0_follow_119 (lv_at hl 6 rfl) ?_
          refine lv_iload hx hb dX0_follow_121 (lv_at hl 0 rfl) ?_
          refine lv_aload_n hx hb dX0_follow_123 rfl (lv_at hl 3 rfl) ?_
          refine va_getN (D := D) (ci := 9) (v := .int (nI limit)) (C := RX9) (T := TX9) (N := 4) hx hb hts zi_X0_follow_X9 hown hK (hRk _ _ hS) 0 rfl rfl 3 (by decide) (hN.w (w := .fieldLinkNest RX0 49 "BeatenInstead$Text" "limit" "I" "BeatenInstead") 5 rfl rfl) (fun _ h9 => h9) rfl dX0_follow_124 ?_
          refine vp_callSi (z_runSN (As := [.int (nI f), .int (st + (nI (blows i))), .int (nI limit)]) (rest := []) hx hb hml hown hts hK hN hl.1 (c_X10_fondAfterBlows l D cI cB cP f (st + (nI (blows i))) limit (by omega)) gX0_follow_X10_fondAfterBlows_n52 rfl 68 rfl (List.mem_of_getElem? (i := 6) rfl) (List.mem_of_getElem? (i := 64) rfl) zd_X10_fondAfterBlows rfl (by simp only [rmF]; omega) (by simp only [rmF]; omega) z_p0 rfl (Nat.le_of_ble_eq_true rfl) dX0_follow_127 ⟨Nat.zero_le _, Nat.zero_le _⟩) (fun r hr => ?_)
          subst hr
          refine lv_istore (lv' := [(9, .int (nI (zFond f (st + (nI (blows i))) limit))), (8, .int (st + (nI (blows i)))), (7, .int (nI (zTen wit kk f (hard i)))), (0, .ref h0), (1, .ref q_tx), (2, .ref w0), (3, .int (nI i)), (4, .int (nI f)), (5, .int st), (6, .int (nI failed))]) hx hb dX0_follow_130 hl (by decide) rfl (fun ls hl => ?_)
          refine lv_aload_n hx hb dX0_follow_132 rfl (lv_at hl 3 rfl) ?_
          refine lv_aload_n hx hb dX0_follow_133 rfl (lv_at hl 4 rfl) ?_
          refine lv_aload_n hx hb dX0_follow_134 rfl (lv_at hl 5 rfl) ?_
          refine lv_iload_n hx hb dX0_follow_135 rfl (lv_at hl 6 rfl) ?_
          refine lv_iconst (v := 1) hx hb dX0_follow_136 (by decide) ?_
          refine lv_iadd hx hb dX0_follow_137 ?_
          refine z_top (show ((nI i) + 1) = nI (i + 1) from nI_add i 1) ?_
          refine lv_iload hx hb dX0_follow_138 (lv_at hl 0 rfl) ?_
          refine lv_iload hx hb dX0_follow_140 (lv_at hl 1 rfl) ?_
          refine lv_iload hx hb dX0_follow_142 (lv_at hl 9 rfl) ?_
          refine lv_iconst (v := 1) hx hb dX0_follow_144 (by decide) ?_
          refine lv_iload_n hx hb dX0_follow_145 rfl (lv_at hl 6 rfl) ?_
          refine lv_ishl hx hb dX0_follow_146 ?_
          refine z_top (show (1 <<< ((nI i) &&& 31)) = nI (2 ^ i) from z_or10 i (by omega)) ?_
          refine lv_ior hx hb dX0_follow_147 ?_
          refine z_top (show ((nI failed) ||| (nI (2 ^ i))) = nI (failed ||| 2 ^ i) from z_orn _ hfa _ (by omega)) ?_
          refine z_wv (Fn := fun u => [(h0, .inr (0, [.int (nI le), .int goal, .int (nI ((sets + (zFl wit kk limit le hard blows goal (d) (i + 1) f st failed).length) + (zFl wit kk limit le hard blows goal (d) (i + 1) (zFond f (st + (nI (blows i))) limit) (st + (nI (blows i))) (failed ||| 2 ^ i)).length)), .int (zAnd (zAnd ia (zFl wit kk limit le hard blows goal (d) (i + 1) f st failed)) (zFl wit kk limit le hard blows goal (d) (i + 1) (zFond f (st + (nI (blows i))) limit) (st + (nI (blows i))) (failed ||| 2 ^ i)))]))]) (z_wrunV (b := h0) (As := [.ref q_tx, .ref w0, .int (nI (i + 1)), .int (nI (zFond f (st + (nI (blows i))) limit)), .int (st + (nI (blows i))), .int (nI (failed ||| 2 ^ i))]) (rest := []) hx hb hml hown hts hK hN hl.1 (ih (sets + (zFl wit kk limit le hard blows goal (d) (i + 1) f st failed).length) (zAnd ia (zFl wit kk limit le hard blows goal (d) (i + 1) f st failed)) (i + 1) (zFond f (st + (nI (blows i))) limit) (st + (nI (blows i))) (failed ||| 2 ^ i) (by omega) (by first | exact hf | exact zFond_le hf) (by first | exact hfa | exact z_or_lt _ hfa _ (by omega))) gX0_follow_X0_follow rfl zd_X0_follow rfl (by simp only [rmF]; omega) (by simp only [rmF]; omega) (hP.sub (ws' := [(h0, .inr (0, [.int (nI le), .int goal, .int (nI (sets + (zFl wit kk limit le hard blows goal (d) (i + 1) f st failed).length)), .int (zAnd ia (zFl wit kk limit le hard blows goal (d) (i + 1) f st failed))]))]) [0] rfl) (hD.sub (ws' := [(h0, .inr (0, [.int (nI le), .int goal, .int (nI (sets + (zFl wit kk limit le hard blows goal (d) (i + 1) f st failed).length)), .int (zAnd ia (zFl wit kk limit le hard blows goal (d) (i + 1) f st failed))]))]) [0] rfl rfl) (va_P.sub (ws' := [(q_tx, .inr (9, [.ref t1, .ref t2, .int (nI lessons), .int (nI limit)])), (t1, .inl (cI, 5, .inl (fun q_ => nI (hard q_)))), (t2, .inl (cI, 5, .inl (fun q_ => nI (blows q_)))), (w0, .inr (zKi kk, [.int (nI wit)]))]) (hRk _ _ hS) [0, 1, 2, 3] rfl) (List.forall_mem_cons.mpr ⟨z_sepR hRA (va_free (wc := [(h0, .inr (0, [.int (nI le), .int goal, .int (nI (sets + (zFl wit kk limit le hard blows goal (d) (i + 1) f st failed).length)), .int (zAnd ia (zFl wit kk limit le hard blows goal (d) (i + 1) f st failed))]))]) hD hS hA [0] rfl) (List.mem_of_getElem? (i := 0) rfl), (List.forall_mem_cons.mpr ⟨z_sepR hRA (va_free (wc := [(h0, .inr (0, [.int (nI le), .int goal, .int (nI (sets + (zFl wit kk limit le hard blows goal (d) (i + 1) f st failed).length)), .int (zAnd ia (zFl wit kk limit le hard blows goal (d) (i + 1) f st failed))]))]) hD hS hA [0] rfl) (List.mem_of_getElem? (i := 1) rfl), (List.forall_mem_cons.mpr ⟨z_sepR hRA (va_free (wc := [(h0, .inr (0, [.int (nI le), .int goal, .int (nI (sets + (zFl wit kk limit le hard blows goal (d) (i + 1) f st failed).length)), .int (zAnd ia (zFl wit kk limit le hard blows goal (d) (i + 1) f st failed))]))]) hD hS hA [0] rfl) (List.mem_of_getElem? (i := 2) rfl), (List.forall_mem_cons.mpr ⟨z_sepR hRA (va_free (wc := [(h0, .inr (0, [.int (nI le), .int goal, .int (nI (sets + (zFl wit kk limit le hard blows goal (d) (i + 1) f st failed).length)), .int (zAnd ia (zFl wit kk limit le hard blows goal (d) (i + 1) f st failed))]))]) hD hS hA [0] rfl) (List.mem_of_getElem? (i := 3) rfl), (fun _ h => absurd h List.not_mem_nil)⟩)⟩)⟩)⟩) (va_recv hK hP (ci := 0) (q0 := 0) rfl rfl) rfl (Nat.le_of_ble_eq_true rfl) dX0_follow_148 ⟨Nat.zero_le _, Nat.zero_le _⟩) hP hD hS hA [0] rfl (fun _ => rfl) (fun _ => rfl) (fun u H locs hr hP hD hS => ?_)
          have hP : va_P D vwCl [(h0, .inr (0, [.int (nI le), .int goal, .int (nI ((sets + (zFl wit kk limit le hard blows goal (d) (i + 1) f st failed).length) + (zFl wit kk limit le hard blows goal (d) (i + 1) (zFond f (st + (nI (blows i))) limit) (st + (nI (blows i))) (failed ||| 2 ^ i)).length)), .int (zAnd (zAnd ia (zFl wit kk limit le hard blows goal (d) (i + 1) f st failed)) (zFl wit kk limit le hard blows goal (d) (i + 1) (zFond f (st + (nI (blows i))) limit) (st + (nI (blows i))) (failed ||| 2 ^ i)))]))] H := hP
          have hD : va_D A [(h0, .inr (0, [.int (nI le), .int goal, .int (nI ((sets + (zFl wit kk limit le hard blows goal (d) (i + 1) f st failed).length) + (zFl wit kk limit le hard blows goal (d) (i + 1) (zFond f (st + (nI (blows i))) limit) (st + (nI (blows i))) (failed ||| 2 ^ i)).length)), .int (zAnd (zAnd ia (zFl wit kk limit le hard blows goal (d) (i + 1) f st failed)) (zFl wit kk limit le hard blows goal (d) (i + 1) (zFond f (st + (nI (blows i))) limit) (st + (nI (blows i))) (failed ||| 2 ^ i)))]))] := hD
          have eW : ([(h0, .inr (0, [.int (nI le), .int goal, .int (nI (sets + (zFl wit kk limit le hard blows goal (d + 1) i f st failed).length)), .int (zAnd ia (zFl wit kk limit le hard blows goal (d + 1) i f st failed))]))] : va_W) = [(h0, .inr (0, [.int (nI le), .int goal, .int (nI ((sets + (zFl wit kk limit le hard blows goal (d) (i + 1) f st failed).length) + (zFl wit kk limit le hard blows goal (d) (i + 1) (zFond f (st + (nI (blows i))) limit) (st + (nI (blows i))) (failed ||| 2 ^ i)).length)), .int (zAnd (zAnd ia (zFl wit kk limit le hard blows goal (d) (i + 1) f st failed)) (zFl wit kk limit le hard blows goal (d) (i + 1) (zFond f (st + (nI (blows i))) limit) (st + (nI (blows i))) (failed ||| 2 ^ i)))]))] := by rw [zFl, if_neg c_2, if_pos (by omega), if_pos (by omega), List.length_append, zAnd_app, Nat.add_assoc]
          exact hret _ _ (()) _ _ dX0_follow_151 trivial (Eq.mpr (congrArg (fun w => va_P D vwCl w H) eW) hP) (Eq.mpr (congrArg (fun w => va_D A w) eW) hD) hS
        · skip
          refine lv_if_eq (tgt := 151) hx hb dX0_follow_106 (by decide) (fun _ => ?_) (fun c => absurd c (by decide))
          have eW : ([(h0, .inr (0, [.int (nI le), .int goal, .int (nI (sets + (zFl wit kk limit le hard blows goal (d + 1) i f st failed).length)), .int (zAnd ia (zFl wit kk limit le hard blows goal (d + 1) i f st failed))]))] : va_W) = [(h0, .inr (0, [.int (nI le), .int goal, .int (nI (sets + (zFl wit kk limit le hard blows goal (d) (i + 1) f st failed).length)), .int (zAnd ia (zFl wit kk limit le hard blows goal (d) (i + 1) f st failed))]))] := by rw [zFl, if_neg c_2, if_pos (by omega), if_neg (by omega), List.append_nil]
          exact hret _ _ (()) _ _ dX0_follow_151 trivial (Eq.mpr (congrArg (fun w => va_P D vwCl w H) eW) hP) (Eq.mpr (congrArg (fun w => va_D A w) eW) hD) hS
      · skip
        refine lv_if_eq (tgt := 100) hx hb dX0_follow_82 (by decide) (fun _ => ?_) (fun c => absurd c (by decide))
        refine lv_iload hx hb dX0_follow_100 (lv_at hl 0 rfl) ?_
        refine lv_iconst (v := 0) hx hb dX0_follow_102 (by decide) ?_
        refine vp_callSi (z_runSN (As := [.int (nI (zTen wit kk f (hard i))), .int 0]) (rest := []) hx hb hml hown hts hK hN hl.1 (c_X10_canBe l D cI cB cP (zTen wit kk f (hard i)) 0 (by omega) (by omega)) gX0_follow_X10_canBe_n41 rfl 66 rfl (List.mem_of_getElem? (i := 6) rfl) (List.mem_of_getElem? (i := 58) rfl) zd_X10_canBe rfl (by simp only [rmF]; omega) (by simp only [rmF]; omega) z_p0 rfl (Nat.le_of_ble_eq_true rfl) dX0_follow_103 ⟨Nat.zero_le _, Nat.zero_le _⟩) (fun r hr => ?_)
        rcases hr with ⟨rfl, c_4⟩ | ⟨rfl, c_4⟩
        · skip
          refine lv_if_eq (tgt := 151) hx hb dX0_follow_106 (by decide) (fun c => absurd c (by decide)) (fun _ => ?_)
          refine lv_iload hx hb dX0_follow_109 (lv_at hl 6 rfl) ?_
          refine lv_aload_n hx hb dX0_follow_111 rfl (lv_at hl 2 rfl) ?_
          refine lv_iload_n hx hb dX0_follow_112 rfl (lv_at hl 4 rfl) ?_
          refine vp_callSi (z_runVN (b := q_tx) (As := [.int (nI i)]) (rest := [.int st]) hx hb hml hown hts hK hN hl.1 (c_X9_blowsOf l D cI cB cP q_tx t1 t2 lessons limit blows i (by omega)) gX0_follow_X9_blowsOf_n45 rfl 67 rfl (List.mem_of_getElem? (i := 13) rfl) (List.mem_of_getElem? (i := 60) rfl) (List.mem_of_getElem? (i := 61) rfl) zd_X9_blowsOf rfl (by simp only [rmF]; omega) (by simp only [rmF]; omega) (va_P.sub (ws' := [(q_tx, .inr (9, [.ref t1, .ref t2, .int (nI lessons), .int (nI limit)])), (t2, .inl (cI, 5, .inl (fun q_ => nI (blows q_))))]) (hRk _ _ hS) [0, 2] rfl) (va_recv hK (hRk _ _ hS) (ci := 9) (q0 := 0) rfl rfl) rfl (Nat.le_of_ble_eq_true rfl) dX0_follow_113 ⟨Nat.zero_le _, Nat.zero_le _⟩) (fun r hr => ?_)
          subst hr
          refine lv_iadd hx hb dX0_follow_116 ?_
          refine lv_istore (lv' := [(8, .int (st + (nI (blows i)))), (7, .int (nI (zTen wit kk f (hard i)))), (0, .ref h0), (1, .ref q_tx), (2, .ref w0), (3, .int (nI i)), (4, .int (nI f)), (5, .int st), (6, .int (nI failed))]) hx hb dX0_follow_117 hl (by decide) rfl (fun ls hl => ?_)
          refine lv_iload hx hb dX0_follow_119 (lv_at hl 6 rfl) ?_
          refine lv_iload hx hb dX0_follow_121 (lv_at hl 0 rfl) ?_
          refine lv_aload_n hx hb dX0_follow_123 rfl (lv_at hl 3 rfl) ?_
          refine va_getN (D := D) (ci := 9) (v := .int (nI limit)) (C := RX9) (T := TX9) (N := 4) hx hb hts zi_X0_follow_X9 hown hK (hRk _ _ hS) 0 rfl rfl 3 (by decide) (hN.w (w := .fieldLinkNest RX0 49 "BeatenInstead$Text" "limit" "I" "BeatenInstead") 5 rfl rfl) (fun _ h9 => h9) rfl dX0_follow_124 ?_
          refine vp_callSi (z_runSN (As := [.int (nI f), .int (st + (nI (blows i))), .int (nI limit)]) (rest := []) hx hb hml hown hts hK hN hl.1 (c_X10_fondAfterBlows l D cI cB cP f (st + (nI (blows i))) limit (by omega)) gX0_follow_X10_fondAfterBlows_n52 rfl 68 rfl (List.mem_of_getElem? (i := 6) rfl) (List.mem_of_getElem? (i := 64) rfl) zd_X10_fondAfterBlows rfl (by simp only [rmF]; omega) (by simp only [rmF]; omega) z_p0 rfl (Nat.le_of_ble_eq_true rfl) dX0_follow_127 ⟨Nat.zero_le _, Nat.zero_le _⟩) (fun r hr => ?_)
          subst hr
          refine lv_istore (lv' := [(9, .int (nI (zFond f (st + (nI (blows i))) limit))), (8, .int (st + (nI (blows i)))), (7, .int (nI (zTen wit kk f (hard i)))), (0, .ref h0), (1, .ref q_tx), (2, .ref w0), (3, .int (nI i)), (4, .int (nI f)), (5, .int st), (6, .int (nI failed))]) hx hb dX0_follow_130 hl (by decide) rfl (fun ls hl => ?_)
          refine lv_aload_n hx hb dX0_follow_132 rfl (lv_at hl 3 rfl) ?_
          refine lv_aload_n hx hb dX0_follow_133 rfl (lv_at hl 4 rfl) ?_
          refine lv_aload_n hx hb dX0_follow_134 rfl (lv_at hl 5 rfl) ?_
          refine lv_iload_n hx hb dX0_follow_135 rfl (lv_at hl 6 rfl) ?_
          refine lv_iconst (v := 1) hx hb dX0_follow_136 (by decide) ?_
          refine lv_iadd hx hb dX0_follow_137 ?_
          refine z_top (show ((nI i) + 1) = nI (i + 1) from nI_add i 1) ?_
          refine lv_iload hx hb dX0_follow_138 (lv_at hl 0 rfl) ?_
          refine lv_iload hx hb dX0_follow_140 (lv_at hl 1 rfl) ?_
          refine lv_iload hx hb dX0_follow_142 (lv_at hl 9 rfl) ?_
          refine lv_iconst (v := 1) hx hb dX0_follow_144 (by decide) ?_
          refine lv_iload_n hx hb dX0_follow_145 rfl (lv_at hl 6 rfl) ?_
          refine lv_ishl hx hb dX0_follow_146 ?_
          refine z_top (show (1 <<< ((nI i) &&& 31)) = nI (2 ^ i) from z_or10 i (by omega)) ?_
          refine lv_ior hx hb dX0_follow_147 ?_
          refine z_top (show ((nI failed) ||| (nI (2 ^ i))) = nI (failed ||| 2 ^ i) from z_orn _ hfa _ (by omega)) ?_
          refine z_wv (Fn := fun u => [(h0, .inr (0, [.int (nI le), .int goal, .int (nI (sets + (zFl wit kk limit le hard blows goal (d) (i + 1) (zFond f (st + (nI (blows i))) limit) (st + (nI (blows i))) (failed ||| 2 ^ i)).length)), .int (zAnd ia (zFl wit kk limit le hard blows goal (d) (i + 1) (zFond f (st + (nI (blows i))) limit) (st + (nI (blows i))) (failed ||| 2 ^ i)))]))]) (z_wrunV (b := h0) (As := [.ref q_tx, .ref w0, .int (nI (i + 1)), .int (nI (zFond f (st + (nI (blows i))) limit)), .int (st + (nI (blows i))), .int (nI (failed ||| 2 ^ i))]) (rest := []) hx hb hml hown hts hK hN hl.1 (ih sets ia (i + 1) (zFond f (st + (nI (blows i))) limit) (st + (nI (blows i))) (failed ||| 2 ^ i) (by omega) (by first | exact hf | exact zFond_le hf) (by first | exact hfa | exact z_or_lt _ hfa _ (by omega))) gX0_follow_X0_follow rfl zd_X0_follow rfl (by simp only [rmF]; omega) (by simp only [rmF]; omega) (hP.sub (ws' := [(h0, .inr (0, [.int (nI le), .int goal, .int (nI sets), .int ia]))]) [0] rfl) (hD.sub (ws' := [(h0, .inr (0, [.int (nI le), .int goal, .int (nI sets), .int ia]))]) [0] rfl rfl) (va_P.sub (ws' := [(q_tx, .inr (9, [.ref t1, .ref t2, .int (nI lessons), .int (nI limit)])), (t1, .inl (cI, 5, .inl (fun q_ => nI (hard q_)))), (t2, .inl (cI, 5, .inl (fun q_ => nI (blows q_)))), (w0, .inr (zKi kk, [.int (nI wit)]))]) (hRk _ _ hS) [0, 1, 2, 3] rfl) (List.forall_mem_cons.mpr ⟨z_sepR hRA (va_free (wc := [(h0, .inr (0, [.int (nI le), .int goal, .int (nI sets), .int ia]))]) hD hS hA [0] rfl) (List.mem_of_getElem? (i := 0) rfl), (List.forall_mem_cons.mpr ⟨z_sepR hRA (va_free (wc := [(h0, .inr (0, [.int (nI le), .int goal, .int (nI sets), .int ia]))]) hD hS hA [0] rfl) (List.mem_of_getElem? (i := 1) rfl), (List.forall_mem_cons.mpr ⟨z_sepR hRA (va_free (wc := [(h0, .inr (0, [.int (nI le), .int goal, .int (nI sets), .int ia]))]) hD hS hA [0] rfl) (List.mem_of_getElem? (i := 2) rfl), (List.forall_mem_cons.mpr ⟨z_sepR hRA (va_free (wc := [(h0, .inr (0, [.int (nI le), .int goal, .int (nI sets), .int ia]))]) hD hS hA [0] rfl) (List.mem_of_getElem? (i := 3) rfl), (fun _ h => absurd h List.not_mem_nil)⟩)⟩)⟩)⟩) (va_recv hK hP (ci := 0) (q0 := 0) rfl rfl) rfl (Nat.le_of_ble_eq_true rfl) dX0_follow_148 ⟨Nat.zero_le _, Nat.zero_le _⟩) hP hD hS hA [0] rfl (fun _ => rfl) (fun _ => rfl) (fun u H locs hr hP hD hS => ?_)
          have hP : va_P D vwCl [(h0, .inr (0, [.int (nI le), .int goal, .int (nI (sets + (zFl wit kk limit le hard blows goal (d) (i + 1) (zFond f (st + (nI (blows i))) limit) (st + (nI (blows i))) (failed ||| 2 ^ i)).length)), .int (zAnd ia (zFl wit kk limit le hard blows goal (d) (i + 1) (zFond f (st + (nI (blows i))) limit) (st + (nI (blows i))) (failed ||| 2 ^ i)))]))] H := hP
          have hD : va_D A [(h0, .inr (0, [.int (nI le), .int goal, .int (nI (sets + (zFl wit kk limit le hard blows goal (d) (i + 1) (zFond f (st + (nI (blows i))) limit) (st + (nI (blows i))) (failed ||| 2 ^ i)).length)), .int (zAnd ia (zFl wit kk limit le hard blows goal (d) (i + 1) (zFond f (st + (nI (blows i))) limit) (st + (nI (blows i))) (failed ||| 2 ^ i)))]))] := hD
          have eW : ([(h0, .inr (0, [.int (nI le), .int goal, .int (nI (sets + (zFl wit kk limit le hard blows goal (d + 1) i f st failed).length)), .int (zAnd ia (zFl wit kk limit le hard blows goal (d + 1) i f st failed))]))] : va_W) = [(h0, .inr (0, [.int (nI le), .int goal, .int (nI (sets + (zFl wit kk limit le hard blows goal (d) (i + 1) (zFond f (st + (nI (blows i))) limit) (st + (nI (blows i))) (failed ||| 2 ^ i)).length)), .int (zAnd ia (zFl wit kk limit le hard blows goal (d) (i + 1) (zFond f (st + (nI (blows i))) limit) (st + (nI (blows i))) (failed ||| 2 ^ i)))]))] := by rw [zFl, if_neg c_2, if_neg (by omega), if_pos (by omega), List.nil_append]
          exact hret _ _ (()) _ _ dX0_follow_151 trivial (Eq.mpr (congrArg (fun w => va_P D vwCl w H) eW) hP) (Eq.mpr (congrArg (fun w => va_D A w) eW) hD) hS
        · skip
          refine lv_if_eq (tgt := 151) hx hb dX0_follow_106 (by decide) (fun _ => ?_) (fun c => absurd c (by decide))
          have eW : ([(h0, .inr (0, [.int (nI le), .int goal, .int (nI (sets + (zFl wit kk limit le hard blows goal (d + 1) i f st failed).length)), .int (zAnd ia (zFl wit kk limit le hard blows goal (d + 1) i f st failed))]))] : va_W) = [(h0, .inr (0, [.int (nI le), .int goal, .int (nI sets), .int ia]))] := by exfalso; omega
          exact hret _ _ (()) _ _ dX0_follow_151 trivial (Eq.mpr (congrArg (fun w => va_P D vwCl w H) eW) hP) (Eq.mpr (congrArg (fun w => va_D A w) eW) hD) hS
  · skip
    have c_1 : ¬ (i < lessons) := (not_congr (nI_ltI (a := i) (b := lessons) (by omega) (by omega))).mp c_1
    exact absurd hpl (by omega)
theorem c_X0_follow (l : Launch) (D : va_G) (cI cB cP : ClassId) (h0 : Nat) (q_tx : Nat) (le : Nat) (goal : Int32) (t1 : Nat) (t2 : Nat) (lessons : Nat) (limit : Nat) (hard : Nat → Nat) (blows : Nat → Nat) (w0 : Nat) (kk : Nat) (wit : Nat) (hkk : kk < 5) (hwit : wit ≤ 9) (hha : ∀ i, hard i ≤ 9) (hls : lessons ≤ 5) (htk : le < 32) : ∀ (d : Nat) (sets : Nat) (ia : Int32) (i : Nat) (f : Nat) (st : Int32) (failed : Nat) (hpl : i + d = lessons) (hf : f ≤ 9) (hfa : failed < 32), zWv (S := Unit) l D cI cB cP yX0_follow wsX0_follow (rmF d) [.ref h0, .ref q_tx, .ref w0, .int (nI i), .int (nI f), .int st, .int (nI failed)] [(h0, .inr (0, [.int (nI le), .int goal, .int (nI sets), .int ia]))] ([(q_tx, .inr (9, [.ref t1, .ref t2, .int (nI lessons), .int (nI limit)])), (t1, .inl (cI, 5, .inl (fun q_ => nI (hard q_)))), (t2, .inl (cI, 5, .inl (fun q_ => nI (blows q_)))), (w0, .inr (zKi kk, [.int (nI wit)]))]) (fun _ => True) (fun u => [(h0, .inr (0, [.int (nI le), .int goal, .int (nI (sets + (zFl wit kk limit le hard blows goal (d) i f st failed).length)), .int (zAnd ia (zFl wit kk limit le hard blows goal (d) i f st failed))]))]) := by
  intro d
  induction d with
  | zero => intro sets ia i f st failed hpl hf hfa; exact c_X0_follow_z l D cI cB cP h0 q_tx le goal t1 t2 lessons limit hard blows w0 kk wit sets ia i f st failed hkk hwit hha hls htk hpl hf hfa
  | succ d ih => intro sets ia i f st failed hpl hf hfa; exact c_X0_follow_s l D cI cB cP h0 q_tx le goal t1 t2 lessons limit hard blows w0 kk wit sets ia i f st failed d hkk hwit hha hls htk hpl hf hfa ih
