/-- the best so far: none yet, or a mean and its order -/
abbrev zSg : Type := Option (Nat × List Nat)
def zUpd (x : zSg) (m : Nat) (L : List Nat) : zSg := match x with
  | none => some (m, L)
  | some (b, B) => if m < b then some (m, L) else some (b, B)
def zOK (x : zSg) (bm : Int64) (best : Nat → Nat) (n : Nat) : Prop := match x with
  | none => bm = -1
  | some (b, B) => bm = lN b ∧ b < 2 ^ 62 ∧ zSlice best 0 n = B
def zArr (mean : List Nat → Nat) (lessons : Nat) : Nat → List Nat → Nat → zSg → zSg
  | 0, P, _, x => zUpd x (mean P) P
  | d + 1, P, taken, x => (List.range lessons).foldl (fun x l => if taken / 2 ^ l % 2 = 1 then x else zArr mean lessons d (P ++ [l]) (taken ||| 2 ^ l) x) x
def zFo (mean : List Nat → Nat) (lessons d : Nat) (P : List Nat) (taken : Nat) (x : zSg) (i : Nat) : zSg := (List.range i).foldl (fun x l => if taken / 2 ^ l % 2 = 1 then x else zArr mean lessons d (P ++ [l]) (taken ||| 2 ^ l) x) x
theorem zFo_0 {mean : List Nat → Nat} {lessons d : Nat} {P : List Nat} {taken : Nat} {x : zSg} : zFo mean lessons d P taken x 0 = x := rfl
theorem zFo_skip {mean : List Nat → Nat} {lessons d : Nat} {P : List Nat} {taken : Nat} {x : zSg} {i : Nat} (h : taken / 2 ^ i % 2 = 1) : zFo mean lessons d P taken x (i + 1) = zFo mean lessons d P taken x i := by
  unfold zFo; rw [List.range_succ, List.foldl_append]; exact if_pos h
theorem zFo_step {mean : List Nat → Nat} {lessons d : Nat} {P : List Nat} {taken : Nat} {x : zSg} {i : Nat} (h : ¬ taken / 2 ^ i % 2 = 1) : zFo mean lessons d P taken x (i + 1) = zArr mean lessons d (P ++ [i]) (taken ||| 2 ^ i) (zFo mean lessons d P taken x i) := by
  unfold zFo; rw [List.range_succ, List.foldl_append]; exact if_neg h
theorem zSlice_snoc (path : Nat → Nat) : ∀ (d p : Nat), zSlice path p (d + 1) = zSlice path p d ++ [path (p + d)] := by
  intro d
  induction d with
  | zero => intro p; rfl
  | succ d ih => intro p; rw [zSlice, ih (p + 1), zSlice, List.cons_append]; congr 4; omega
theorem zSlice_up {path : Nat → Nat} {v : Nat} : ∀ {d p n : Nat}, p + d ≤ n → zSlice (va_up path n v) p d = zSlice path p d := by
  intro d
  induction d with
  | zero => intro p n _; rfl
  | succ d ih =>
    intro p n h
    rw [zSlice, zSlice, ih (by omega)]
    congr 1
    simp only [va_up, if_neg (show ¬ p = n by omega)]
theorem zSlice_put {path : Nat → Nat} {n i : Nat} : zSlice (va_up path n i) 0 (n + 1) = zSlice path 0 n ++ [i] := by
  rw [zSlice_snoc, zSlice_up (by omega)]
  congr 2
  simp [va_up]
theorem zSlice_init {path : Nat → Nat} {n i : Nat} {P : List Nat} (h : zSlice path 0 (n + 1) = P ++ [i]) : zSlice path 0 n = P := by
  rw [zSlice_snoc] at h
  exact (List.append_inj' h rfl).1
theorem z_lm1 {b : Nat} (h : b < 2 ^ 62) : ¬ lN b = (-1) := by
  intro e
  have h1 : (lN b).toInt = ((-1 : Int64)).toInt := by rw [e]
  rw [pk_lT (by omega)] at h1
  have h2 : ((-1 : Int64)).toInt = -1 := by decide
  omega
theorem zMl_lt {w k lim : Nat} {hard blows : Nat → Nat} (hb : ∀ i, blows i ≤ 9) (L : List Nat) (f : Nat) (st : Int32) (hl : L.length ≤ 5) : zMl w k lim hard blows L f st < 2 ^ 62 := by
  have h := zMl_le (w := w) (k := k) (lim := lim) (hard := hard) hb L f st
  have h1 : 10 ^ L.length ≤ 10 ^ 5 := Nat.pow_le_pow_right (by omega) hl
  have h2 : 9 * L.length * 10 ^ L.length ≤ 45 * 10 ^ 5 := Nat.mul_le_mul (by omega) h1
  have h3 : (45 : Nat) * 10 ^ 5 < 2 ^ 62 := by decide
  omega
abbrev rmA (d : Nat) : Room := { frames := 20 + d, cells := 0, slots := 0, locals := 700 + 60 * d }
theorem zi_X4_arrange_X4 : ∀ w ∈ wsX40, w ∈ wsX4_arrange := fun _ h => List.mem_cons_of_mem _ (List.mem_append_left _ (List.mem_append_left _ (List.mem_append_left _ (List.mem_append_left _ (List.mem_append_left _ (List.mem_append_left _ (List.mem_append_right _ (h))))))))
set_option maxHeartbeats 4000000 in
set_option maxRecDepth 100000 in
theorem c_X4_arrange_z (l : Launch) (D : va_G) (cI cB cP : ClassId) (h0 : Nat) (q_tx : Nat) (q1 : Nat) (q2 : Nat) (osz : Nat) (t1 : Nat) (t2 : Nat) (lessons : Nat) (limit : Nat) (hard : Nat → Nat) (blows : Nat → Nat) (w0 : Nat) (kk : Nat) (wit : Nat) (f : Nat) (st : Int32) (path : Nat → Nat) (best : Nat → Nat) (obm : Int64) (place : Nat) (taken : Nat) (PP : List Nat) (sg : zSg) (hkk : kk < 5) (hwit : wit ≤ 9) (hha : ∀ i, hard i ≤ 9) (hbl : ∀ i, blows i ≤ 9) (hosz : osz ≤ 5) (hls : lessons ≤ 5) (hf : f ≤ 9) (hpt : ∀ j, path j < 5) (hpl : place + 0 = osz) (htk : taken < 32) (hPP : zSlice path 0 place = PP) (hsg : zOK sg obm best osz)  : zWv (S := (Nat → Nat) × (Nat → Nat) × Int64) l D cI cB cP yX4_arrange wsX4_arrange (rmA (0)) [.ref h0, .ref q_tx, .ref w0, .int (nI f), .int st, .int (nI place), .int (nI taken)] [(h0, .inr (4, [.ref q1, .ref q2, .int (nI osz), .long (lN (10 ^ osz)), .long obm])), (q1, .inl (cI, 5, .inl (fun q_ => nI (path q_)))), (q2, .inl (cI, 5, .inl (fun q_ => nI (best q_))))] ([(q_tx, .inr (9, [.ref t1, .ref t2, .int (nI lessons), .int (nI limit)])), (t1, .inl (cI, 5, .inl (fun q_ => nI (hard q_)))), (t2, .inl (cI, 5, .inl (fun q_ => nI (blows q_)))), (w0, .inr (zKi kk, [.int (nI wit)]))]) (fun u => zSlice u.1 0 place = PP ∧ (∀ j, u.1 j < 5) ∧ zOK (zArr (fun L_ => zMl wit kk limit hard blows L_ f st) lessons (0) PP taken sg) u.2.2 u.2.1 osz) (fun u => [(h0, .inr (4, [.ref q1, .ref q2, .int (nI osz), .long (lN (10 ^ osz)), .long u.2.2])), (q1, .inl (cI, 5, .inl (fun q_ => nI (u.1 q_)))), (q2, .inl (cI, 5, .inl (fun q_ => nI (u.2.1 q_))))]) := by
  refine zWv_of (cc := cX4_arrange) (maxL := 9) (by decide) rfl (Nat.le_of_ble_eq_true rfl) ?_
  intro p e s m args below meth c ls Q A H locs hx hb hml hts hown hP hD hS hA hRk hRA hK hN hl hret
  have hown : s.vm.findClass RX4 = some m.cls := hown
  have hl : lv_has ls 9 [(0, .ref h0), (1, .ref q_tx), (2, .ref w0), (3, .int (nI f)), (4, .int st), (5, .int (nI place)), (6, .int (nI taken))] := hl
  refine lv_iload hx hb dX4_arrange_0 (lv_at hl 5 rfl) ?_
  refine lv_aload_n hx hb dX4_arrange_2 rfl (lv_at hl 0 rfl) ?_
  refine va_get (D := D) (ci := 4) (v := .int (nI osz)) (C := RX4) (T := TX4) (N := 5) hx hb hts zi_X4_arrange_X4 hown hK hP 0 rfl rfl 2 (by decide) (hts (.fieldLink RX4 18 "BeatenInstead$Ordering" "size" "I") (List.mem_of_getElem? (i := 1) rfl)) (fun _ h9 => h9) rfl dX4_arrange_3 ?_
  refine lv_icmp_lt (tgt := 64) hx hb dX4_arrange_6 (by decide) (fun c_1 => ?_) (fun c_1 => ?_)
  · skip
    have c_1 : place < osz := (nI_ltI (a := place) (b := osz) (by omega) (by omega)).mp c_1
    exact absurd hpl (by omega)
  · skip
    have c_1 : ¬ (place < osz) := (not_congr (nI_ltI (a := place) (b := osz) (by omega) (by omega))).mp c_1
    refine lv_aload_n hx hb dX4_arrange_9 rfl (lv_at hl 0 rfl) ?_
    refine lv_aload_n hx hb dX4_arrange_10 rfl (lv_at hl 1 rfl) ?_
    refine lv_aload_n hx hb dX4_arrange_11 rfl (lv_at hl 2 rfl) ?_
    refine lv_iload_n hx hb dX4_arrange_12 rfl (lv_at hl 3 rfl) ?_
    refine lv_iload hx hb dX4_arrange_13 (lv_at hl 4 rfl) ?_
    refine lv_iconst (v := 0) hx hb dX4_arrange_15 (by decide) ?_
    refine lv_aload_n hx hb dX4_arrange_16 rfl (lv_at hl 0 rfl) ?_
    refine va_get (D := D) (ci := 4) (v := .long (lN (10 ^ osz))) (C := RX4) (T := TX4) (N := 5) hx hb hts zi_X4_arrange_X4 hown hK hP 0 rfl rfl 3 (by decide) (hts (.fieldLink RX4 22 "BeatenInstead$Ordering" "whole" "J") (List.mem_of_getElem? (i := 2) rfl)) (fun _ h9 => h9) rfl dX4_arrange_17 ?_
    refine vp_callSl (z_runV (b := h0) (As := [.ref q_tx, .ref w0, .int (nI f), .int st, .int 0, .long (lN (10 ^ osz))]) (rest := []) hx hb hml hown hts hK hN hl.1 (c_X4_meanFrom l D cI cB cP h0 q_tx q1 q2 osz (10 ^ osz) obm path t1 t2 lessons limit hard blows w0 kk wit hkk hwit hha hbl hpt hosz osz f st 0 hf (by omega)) gX4_arrange_X4_meanFrom rfl zd_X4_meanFrom rfl (by simp only [rmA]; omega) (by simp only [rmA]; omega) (va_P.sub (ws' := [(h0, .inr (4, [.ref q1, .ref q2, .int (nI osz), .long (lN (10 ^ osz)), .long obm])), (q1, .inl (cI, 5, .inl (fun q_ => nI (path q_)))), (q_tx, .inr (9, [.ref t1, .ref t2, .int (nI lessons), .int (nI limit)])), (t1, .inl (cI, 5, .inl (fun q_ => nI (hard q_)))), (t2, .inl (cI, 5, .inl (fun q_ => nI (blows q_)))), (w0, .inr (zKi kk, [.int (nI wit)]))]) (va_P.app hP (hRk _ _ hS)) [0, 1, 3, 4, 5, 6] rfl) (va_recv hK hP (ci := 4) (q0 := 0) rfl rfl) rfl (Nat.le_of_ble_eq_true rfl) dX4_arrange_20 ⟨Nat.zero_le _, Nat.zero_le _⟩) (fun r hr => ?_)
    subst hr
    refine lv_lstore (lv' := [(7, .long (lN (zMl wit kk limit hard blows (zSlice path 0 osz) f st))), (0, .ref h0), (1, .ref q_tx), (2, .ref w0), (3, .int (nI f)), (4, .int st), (5, .int (nI place)), (6, .int (nI taken))]) hx hb dX4_arrange_23 hl (by decide) rfl (fun ls hl => ?_)
    have hlen : PP.length = osz := by rw [← hPP, zSlice_len]; omega
    have hPo : zSlice path 0 osz = PP := by rw [← hPP]; congr 1; omega
    have hmz : zMl wit kk limit hard blows PP f st < 2 ^ 62 := zMl_lt hbl PP f st (by omega)
    rw [hPo] at hl
    rcases sg with _ | ⟨b, B⟩
    · have hsg : obm = (-1) := hsg
      subst hsg
      have hP := hP
      refine lv_aload_n hx hb dX4_arrange_25 rfl (lv_at hl 1 rfl) ?_
      refine va_get (D := D) (ci := 4) (v := .long (-1)) (C := RX4) (T := TX4) (N := 5) hx hb hts zi_X4_arrange_X4 hown hK hP 0 rfl rfl 4 (by decide) (hts (.fieldLink RX4 26 "BeatenInstead$Ordering" "bestMean" "J") (List.mem_of_getElem? (i := 3) rfl)) (fun _ h9 => h9) rfl dX4_arrange_26 ?_
      refine lv_ldc2 (v := (-1)) hx hb hown (hts (.constantLong RX4 40 (-1)) (List.mem_of_getElem? (i := 4) rfl)) dX4_arrange_29 ?_
      refine W.lcmp hx hb dX4_arrange_32 ?_
      refine lv_if_eq (tgt := 46) hx hb dX4_arrange_33 (by decide) (fun c_2 => ?_) (fun c_2 => ?_)
      · skip
        have c_2 : ((-1) : Int64) = (-1) := (lg_cmp_eq _ _).mp c_2
        refine lv_aload_n hx hb dX4_arrange_46 rfl (lv_at hl 1 rfl) ?_
        refine lv_lload hx hb dX4_arrange_47 (lv_at hl 0 rfl) ?_
        refine va_put (D := D) (ci := 4) (v := .long (lN (zMl wit kk limit hard blows PP f st))) (ty := .long) (C := RX4) (T := TX4) (N := 5) hx hb hts zi_X4_arrange_X4 tyX4 tyX4_ok nmX4 hown hK hP hD hS 0 rfl rfl 4 (by decide) (hts (.fieldLink RX4 26 "BeatenInstead$Ordering" "bestMean" "J") (List.mem_of_getElem? (i := 3) rfl)) (fun _ h9 => h9) rfl rfl rfl rfl (Nat.le_of_ble_eq_true rfl) dX4_arrange_49 (fun H locs hP hD hS => ?_)
        have hP : va_P D vwCl [(h0, .inr (4, [.ref q1, .ref q2, .int (nI osz), .long (lN (10 ^ osz)), .long (lN (zMl wit kk limit hard blows PP f st))])), (q1, .inl (cI, 5, .inl (fun q_ => nI (path q_)))), (q2, .inl (cI, 5, .inl (fun q_ => nI (best q_))))] H := hP
        have hD : va_D A [(h0, .inr (4, [.ref q1, .ref q2, .int (nI osz), .long (lN (10 ^ osz)), .long (lN (zMl wit kk limit hard blows PP f st))])), (q1, .inl (cI, 5, .inl (fun q_ => nI (path q_)))), (q2, .inl (cI, 5, .inl (fun q_ => nI (best q_))))] := hD
        refine lv_aload_n hx hb dX4_arrange_52 rfl (lv_at hl 1 rfl) ?_
        refine va_get (D := D) (ci := 4) (v := .ref q1) (C := RX4) (T := TX4) (N := 5) hx hb hts zi_X4_arrange_X4 hown hK hP 0 rfl rfl 0 (by decide) (hts (.fieldLink RX4 9 "BeatenInstead$Ordering" "path" "[I") (List.mem_of_getElem? (i := 5) rfl)) (fun _ h9 => h9) rfl dX4_arrange_53 ?_
        refine lv_aload_n hx hb dX4_arrange_56 rfl (lv_at hl 1 rfl) ?_
        refine va_get (D := D) (ci := 4) (v := .ref q2) (C := RX4) (T := TX4) (N := 5) hx hb hts zi_X4_arrange_X4 hown hK hP 0 rfl rfl 1 (by decide) (hts (.fieldLink RX4 15 "BeatenInstead$Ordering" "best" "[I") (List.mem_of_getElem? (i := 6) rfl)) (fun _ h9 => h9) rfl dX4_arrange_57 ?_
        refine z_wv (Fn := fun u => [(h0, .inr (4, [.ref q1, .ref q2, .int (nI osz), .long (lN (10 ^ osz)), .long (lN (zMl wit kk limit hard blows PP f st))])), (q1, .inl (cI, 5, .inl (fun q_ => nI (path q_)))), (q2, .inl (cI, 5, .inl (fun q_ => nI (path q_))))]) (z_wrunSN (As := [.ref q1, .ref q2]) (rest := []) hx hb hml hown hts hK hN hl.1 (c_X10_copy_n l D cI cB cP q1 5 path q2 best (by omega)) gX4_arrange_X10_copy_n50 rfl 60 rfl (List.mem_of_getElem? (i := 14) rfl) (List.mem_of_getElem? (i := 70) rfl) zd_X10_copy rfl (by simp only [rmA]; omega) (by simp only [rmA]; omega) (hP.sub (ws' := [(q2, .inl (cI, 5, .inl (fun q_ => nI (best q_))))]) [2] rfl) (hD.sub (ws' := [(q2, .inl (cI, 5, .inl (fun q_ => nI (best q_))))]) [2] rfl rfl) (va_P.sub (ws' := [(q1, .inl (cI, 5, .inl (fun q_ => nI (path q_))))]) hP [1] rfl) (List.forall_mem_cons.mpr ⟨z_sepW hD hP [2] rfl 1 rfl (by decide), (fun _ h => absurd h List.not_mem_nil)⟩) rfl (Nat.le_of_ble_eq_true rfl) dX4_arrange_60 ⟨Nat.zero_le _, Nat.zero_le _⟩) hP hD hS hA [2] rfl (fun _ => rfl) (fun _ => rfl) (fun u H locs hr hP hD hS => ?_)
        have hP : va_P D vwCl [(h0, .inr (4, [.ref q1, .ref q2, .int (nI osz), .long (lN (10 ^ osz)), .long (lN (zMl wit kk limit hard blows PP f st))])), (q1, .inl (cI, 5, .inl (fun q_ => nI (path q_)))), (q2, .inl (cI, 5, .inl (fun q_ => nI (path q_))))] H := hP
        have hD : va_D A [(h0, .inr (4, [.ref q1, .ref q2, .int (nI osz), .long (lN (10 ^ osz)), .long (lN (zMl wit kk limit hard blows PP f st))])), (q1, .inl (cI, 5, .inl (fun q_ => nI (path q_)))), (q2, .inl (cI, 5, .inl (fun q_ => nI (path q_))))] := hD
        exact hret _ _ ((path, path, lN (zMl wit kk limit hard blows PP f st))) _ _ dX4_arrange_63 ⟨hPP, hpt, by rw [zArr]; exact ⟨rfl, hmz, hPo⟩⟩ hP hD hS
      · skip
        have c_2 : ¬ (((-1) : Int64) = (-1)) := (not_congr (lg_cmp_eq _ _)).mp c_2
        exact absurd rfl c_2
    · obtain ⟨hsg, hb62, hB⟩ : obm = lN b ∧ b < 2 ^ 62 ∧ zSlice best 0 osz = B := hsg
      subst hsg
      refine lv_aload_n hx hb dX4_arrange_25 rfl (lv_at hl 1 rfl) ?_
      refine va_get (D := D) (ci := 4) (v := .long (lN b)) (C := RX4) (T := TX4) (N := 5) hx hb hts zi_X4_arrange_X4 hown hK hP 0 rfl rfl 4 (by decide) (hts (.fieldLink RX4 26 "BeatenInstead$Ordering" "bestMean" "J") (List.mem_of_getElem? (i := 3) rfl)) (fun _ h9 => h9) rfl dX4_arrange_26 ?_
      refine lv_ldc2 (v := (-1)) hx hb hown (hts (.constantLong RX4 40 (-1)) (List.mem_of_getElem? (i := 4) rfl)) dX4_arrange_29 ?_
      refine W.lcmp hx hb dX4_arrange_32 ?_
      refine lv_if_eq (tgt := 46) hx hb dX4_arrange_33 (by decide) (fun c_2 => ?_) (fun c_2 => ?_)
      · skip
        have c_2 : ((lN b) : Int64) = (-1) := (lg_cmp_eq _ _).mp c_2
        exact absurd c_2 (z_lm1 hb62)
      · skip
        have c_2 : ¬ (((lN b) : Int64) = (-1)) := (not_congr (lg_cmp_eq _ _)).mp c_2
        refine lv_lload hx hb dX4_arrange_36 (lv_at hl 0 rfl) ?_
        refine lv_aload_n hx hb dX4_arrange_38 rfl (lv_at hl 1 rfl) ?_
        refine va_get (D := D) (ci := 4) (v := .long (lN b)) (C := RX4) (T := TX4) (N := 5) hx hb hts zi_X4_arrange_X4 hown hK hP 0 rfl rfl 4 (by decide) (hts (.fieldLink RX4 26 "BeatenInstead$Ordering" "bestMean" "J") (List.mem_of_getElem? (i := 3) rfl)) (fun _ h9 => h9) rfl dX4_arrange_39 ?_
        refine W.lcmp hx hb dX4_arrange_42 ?_
        refine lv_if_ge (tgt := 63) hx hb dX4_arrange_43 (by decide) (fun c_3 => ?_) (fun c_3 => ?_)
        · skip
          have c_3 : ((lN b) : Int64) ≤ (lN (zMl wit kk limit hard blows PP f st)) := (lg_cmp_ge _ _).mp c_3
          have c_3 : b ≤ zMl wit kk limit hard blows PP f st := (pk_lLE (a := b) (b := zMl wit kk limit hard blows PP f st) (by omega) (by omega)).mp c_3
          exact hret _ _ ((path, best, lN b)) _ _ dX4_arrange_63 ⟨hPP, hpt, by rw [zArr, zUpd]; rw [if_neg (by omega)]; exact ⟨rfl, hb62, hB⟩⟩ hP hD hS
        · skip
          have c_3 : ¬ (((lN b) : Int64) ≤ (lN (zMl wit kk limit hard blows PP f st))) := (not_congr (lg_cmp_ge _ _)).mp c_3
          have c_3 : ¬ (b ≤ zMl wit kk limit hard blows PP f st) := (not_congr (pk_lLE (a := b) (b := zMl wit kk limit hard blows PP f st) (by omega) (by omega))).mp c_3
          refine lv_aload_n hx hb dX4_arrange_46 rfl (lv_at hl 1 rfl) ?_
          refine lv_lload hx hb dX4_arrange_47 (lv_at hl 0 rfl) ?_
          refine va_put (D := D) (ci := 4) (v := .long (lN (zMl wit kk limit hard blows PP f st))) (ty := .long) (C := RX4) (T := TX4) (N := 5) hx hb hts zi_X4_arrange_X4 tyX4 tyX4_ok nmX4 hown hK hP hD hS 0 rfl rfl 4 (by decide) (hts (.fieldLink RX4 26 "BeatenInstead$Ordering" "bestMean" "J") (List.mem_of_getElem? (i := 3) rfl)) (fun _ h9 => h9) rfl rfl rfl rfl (Nat.le_of_ble_eq_true rfl) dX4_arrange_49 (fun H locs hP hD hS => ?_)
          have hP : va_P D vwCl [(h0, .inr (4, [.ref q1, .ref q2, .int (nI osz), .long (lN (10 ^ osz)), .long (lN (zMl wit kk limit hard blows PP f st))])), (q1, .inl (cI, 5, .inl (fun q_ => nI (path q_)))), (q2, .inl (cI, 5, .inl (fun q_ => nI (best q_))))] H := hP
          have hD : va_D A [(h0, .inr (4, [.ref q1, .ref q2, .int (nI osz), .long (lN (10 ^ osz)), .long (lN (zMl wit kk limit hard blows PP f st))])), (q1, .inl (cI, 5, .inl (fun q_ => nI (path q_)))), (q2, .inl (cI, 5, .inl (fun q_ => nI (best q_))))] := hD
          refine lv_aload_n hx hb dX4_arrange_52 rfl (lv_at hl 1 rfl) ?_
          refine va_get (D := D) (ci := 4) (v := .ref q1) (C := RX4) (T := TX4) (N := 5) hx hb hts zi_X4_arrange_X4 hown hK hP 0 rfl rfl 0 (by decide) (hts (.fieldLink RX4 9 "BeatenInstead$Ordering" "path" "[I") (List.mem_of_getElem? (i := 5) rfl)) (fun _ h9 => h9) rfl dX4_arrange_53 ?_
          refine lv_aload_n hx hb dX4_arrange_56 rfl (lv_at hl 1 rfl) ?_
          refine va_get (D := D) (ci := 4) (v := .ref q2) (C := RX4) (T := TX4) (N := 5) hx hb hts zi_X4_arrange_X4 hown hK hP 0 rfl rfl 1 (by decide) (hts (.fieldLink RX4 15 "BeatenInstead$Ordering" "best" "[I") (List.mem_of_getElem? (i := 6) rfl)) (fun _ h9 => h9) rfl dX4_arrange_57 ?_
          refine z_wv (Fn := fun u => [(h0, .inr (4, [.ref q1, .ref q2, .int (nI osz), .long (lN (10 ^ osz)), .long (lN (zMl wit kk limit hard blows PP f st))])), (q1, .inl (cI, 5, .inl (fun q_ => nI (path q_)))), (q2, .inl (cI, 5, .inl (fun q_ => nI (path q_))))]) (z_wrunSN (As := [.ref q1, .ref q2]) (rest := []) hx hb hml hown hts hK hN hl.1 (c_X10_copy_n l D cI cB cP q1 5 path q2 best (by omega)) gX4_arrange_X10_copy_n50 rfl 60 rfl (List.mem_of_getElem? (i := 14) rfl) (List.mem_of_getElem? (i := 70) rfl) zd_X10_copy rfl (by simp only [rmA]; omega) (by simp only [rmA]; omega) (hP.sub (ws' := [(q2, .inl (cI, 5, .inl (fun q_ => nI (best q_))))]) [2] rfl) (hD.sub (ws' := [(q2, .inl (cI, 5, .inl (fun q_ => nI (best q_))))]) [2] rfl rfl) (va_P.sub (ws' := [(q1, .inl (cI, 5, .inl (fun q_ => nI (path q_))))]) hP [1] rfl) (List.forall_mem_cons.mpr ⟨z_sepW hD hP [2] rfl 1 rfl (by decide), (fun _ h => absurd h List.not_mem_nil)⟩) rfl (Nat.le_of_ble_eq_true rfl) dX4_arrange_60 ⟨Nat.zero_le _, Nat.zero_le _⟩) hP hD hS hA [2] rfl (fun _ => rfl) (fun _ => rfl) (fun u H locs hr hP hD hS => ?_)
          have hP : va_P D vwCl [(h0, .inr (4, [.ref q1, .ref q2, .int (nI osz), .long (lN (10 ^ osz)), .long (lN (zMl wit kk limit hard blows PP f st))])), (q1, .inl (cI, 5, .inl (fun q_ => nI (path q_)))), (q2, .inl (cI, 5, .inl (fun q_ => nI (path q_))))] H := hP
          have hD : va_D A [(h0, .inr (4, [.ref q1, .ref q2, .int (nI osz), .long (lN (10 ^ osz)), .long (lN (zMl wit kk limit hard blows PP f st))])), (q1, .inl (cI, 5, .inl (fun q_ => nI (path q_)))), (q2, .inl (cI, 5, .inl (fun q_ => nI (path q_))))] := hD
          exact hret _ _ ((path, path, lN (zMl wit kk limit hard blows PP f st))) _ _ dX4_arrange_63 ⟨hPP, hpt, by rw [zArr, zUpd]; rw [if_pos (by omega)]; exact ⟨rfl, hmz, hPo⟩⟩ hP hD hS

theorem zi_X4_arrange_X9 : ∀ w ∈ wsX90, w ∈ wsX4_arrange := fun _ h => List.mem_cons_of_mem _ (List.mem_append_left _ (List.mem_append_left _ (List.mem_append_left _ (List.mem_append_left _ (List.mem_append_left _ (List.mem_append_right _ (h)))))))
set_option maxHeartbeats 4000000 in
set_option maxRecDepth 100000 in
theorem c_X4_arrange_s (l : Launch) (D : va_G) (cI cB cP : ClassId) (h0 : Nat) (q_tx : Nat) (q1 : Nat) (q2 : Nat) (osz : Nat) (t1 : Nat) (t2 : Nat) (lessons : Nat) (limit : Nat) (hard : Nat → Nat) (blows : Nat → Nat) (w0 : Nat) (kk : Nat) (wit : Nat) (f : Nat) (st : Int32) (path : Nat → Nat) (best : Nat → Nat) (obm : Int64) (place : Nat) (taken : Nat) (PP : List Nat) (sg : zSg) (d : Nat) (hkk : kk < 5) (hwit : wit ≤ 9) (hha : ∀ i, hard i ≤ 9) (hbl : ∀ i, blows i ≤ 9) (hosz : osz ≤ 5) (hls : lessons ≤ 5) (hf : f ≤ 9) (hpt : ∀ j, path j < 5) (hpl : place + (d + 1) = osz) (htk : taken < 32) (hPP : zSlice path 0 place = PP) (hsg : zOK sg obm best osz) (ih : ∀ (path : Nat → Nat) (best : Nat → Nat) (obm : Int64) (place : Nat) (taken : Nat) (PP : List Nat) (sg : zSg) (hpt : ∀ j, path j < 5) (hpl : place + d = osz) (htk : taken < 32) (hPP : zSlice path 0 place = PP) (hsg : zOK sg obm best osz), zWv (S := (Nat → Nat) × (Nat → Nat) × Int64) l D cI cB cP yX4_arrange wsX4_arrange (rmA d) [.ref h0, .ref q_tx, .ref w0, .int (nI f), .int st, .int (nI place), .int (nI taken)] [(h0, .inr (4, [.ref q1, .ref q2, .int (nI osz), .long (lN (10 ^ osz)), .long obm])), (q1, .inl (cI, 5, .inl (fun q_ => nI (path q_)))), (q2, .inl (cI, 5, .inl (fun q_ => nI (best q_))))] ([(q_tx, .inr (9, [.ref t1, .ref t2, .int (nI lessons), .int (nI limit)])), (t1, .inl (cI, 5, .inl (fun q_ => nI (hard q_)))), (t2, .inl (cI, 5, .inl (fun q_ => nI (blows q_)))), (w0, .inr (zKi kk, [.int (nI wit)]))]) (fun u => zSlice u.1 0 place = PP ∧ (∀ j, u.1 j < 5) ∧ zOK (zArr (fun L_ => zMl wit kk limit hard blows L_ f st) lessons (d) PP taken sg) u.2.2 u.2.1 osz) (fun u => [(h0, .inr (4, [.ref q1, .ref q2, .int (nI osz), .long (lN (10 ^ osz)), .long u.2.2])), (q1, .inl (cI, 5, .inl (fun q_ => nI (u.1 q_)))), (q2, .inl (cI, 5, .inl (fun q_ => nI (u.2.1 q_))))])) : zWv (S := (Nat → Nat) × (Nat → Nat) × Int64) l D cI cB cP yX4_arrange wsX4_arrange (rmA (d + 1)) [.ref h0, .ref q_tx, .ref w0, .int (nI f), .int st, .int (nI place), .int (nI taken)] [(h0, .inr (4, [.ref q1, .ref q2, .int (nI osz), .long (lN (10 ^ osz)), .long obm])), (q1, .inl (cI, 5, .inl (fun q_ => nI (path q_)))), (q2, .inl (cI, 5, .inl (fun q_ => nI (best q_))))] ([(q_tx, .inr (9, [.ref t1, .ref t2, .int (nI lessons), .int (nI limit)])), (t1, .inl (cI, 5, .inl (fun q_ => nI (hard q_)))), (t2, .inl (cI, 5, .inl (fun q_ => nI (blows q_)))), (w0, .inr (zKi kk, [.int (nI wit)]))]) (fun u => zSlice u.1 0 place = PP ∧ (∀ j, u.1 j < 5) ∧ zOK (zArr (fun L_ => zMl wit kk limit hard blows L_ f st) lessons (d + 1) PP taken sg) u.2.2 u.2.1 osz) (fun u => [(h0, .inr (4, [.ref q1, .ref q2, .int (nI osz), .long (lN (10 ^ osz)), .long u.2.2])), (q1, .inl (cI, 5, .inl (fun q_ => nI (u.1 q_)))), (q2, .inl (cI, 5, .inl (fun q_ => nI (u.2.1 q_))))]) := by
  refine zWv_of (cc := cX4_arrange) (maxL := 9) (by decide) rfl (Nat.le_of_ble_eq_true rfl) ?_
  intro p e s m args below meth c ls Q A H locs hx hb hml hts hown hP hD hS hA hRk hRA hK hN hl hret
  have hown : s.vm.findClass RX4 = some m.cls := hown
  have hl : lv_has ls 9 [(0, .ref h0), (1, .ref q_tx), (2, .ref w0), (3, .int (nI f)), (4, .int st), (5, .int (nI place)), (6, .int (nI taken))] := hl
  refine lv_iload hx hb dX4_arrange_0 (lv_at hl 5 rfl) ?_
  refine lv_aload_n hx hb dX4_arrange_2 rfl (lv_at hl 0 rfl) ?_
  refine va_get (D := D) (ci := 4) (v := .int (nI osz)) (C := RX4) (T := TX4) (N := 5) hx hb hts zi_X4_arrange_X4 hown hK hP 0 rfl rfl 2 (by decide) (hts (.fieldLink RX4 18 "BeatenInstead$Ordering" "size" "I") (List.mem_of_getElem? (i := 1) rfl)) (fun _ h9 => h9) rfl dX4_arrange_3 ?_
  refine lv_icmp_lt (tgt := 64) hx hb dX4_arrange_6 (by decide) (fun c_1 => ?_) (fun c_1 => ?_)
  · skip
    have c_1 : place < osz := (nI_ltI (a := place) (b := osz) (by omega) (by omega)).mp c_1
    refine lv_iconst (v := 0) hx hb dX4_arrange_64 (by decide) ?_
    refine lv_istore (lv' := [(7, .int 0), (0, .ref h0), (1, .ref q_tx), (2, .ref w0), (3, .int (nI f)), (4, .int st), (5, .int (nI place)), (6, .int (nI taken))]) hx hb dX4_arrange_65 hl (by decide) rfl (fun ls hl => ?_)
    have loop_67 : ∀ (fu_67 : Nat) (g1 g2 : Nat → Nat) (bm : Int64) (i : Nat), (i ≤ lessons) → (zSlice g1 0 place = PP) → (∀ j, g1 j < 5) → (zOK (zFo (fun L_ => zMl wit kk limit hard blows L_ f st) lessons d PP taken sg i) bm g2 osz) → lessons - i < fu_67 → ∀ (ls : Array Slot) (H : Heap) (locs : List Loc), va_P D vwCl [(h0, .inr (4, [.ref q1, .ref q2, .int (nI osz), .long (lN (10 ^ osz)), .long bm])), (q1, .inl (cI, 5, .inl (fun q_ => nI (g1 q_)))), (q2, .inl (cI, 5, .inl (fun q_ => nI (g2 q_))))] H → va_D A [(h0, .inr (4, [.ref q1, .ref q2, .int (nI osz), .long (lN (10 ^ osz)), .long bm])), (q1, .inl (cI, 5, .inl (fun q_ => nI (g1 q_)))), (q2, .inl (cI, 5, .inl (fun q_ => nI (g2 q_))))] → va_S A s.heap H locs → lv_has ls 9 [(7, .int (nI i)), (0, .ref h0), (1, .ref q_tx), (2, .ref w0), (3, .int (nI f)), (4, .int st), (5, .int (nI place)), (6, .int (nI taken))] → W p l e (rmA (d + 1)) s m args below meth c H locs 0 0 Q (F0 m 67 ls []) := by
      intro fu_67
      induction fu_67 with
      | zero => intro g1 g2 bm i hi hg0 hg1 hg2 hn_67; exact absurd hn_67 (by omega)
      | succ fu_67 ih_67 =>
        intro g1 g2 bm i hi hg0 hg1 hg2 hn_67 ls H locs hP hD hS hl
        refine lv_iload hx hb dX4_arrange_67 (lv_at hl 0 rfl) ?_
        refine lv_aload_n hx hb dX4_arrange_69 rfl (lv_at hl 2 rfl) ?_
        refine va_getN (D := D) (ci := 9) (v := .int (nI lessons)) (C := RX9) (T := TX9) (N := 4) hx hb hts zi_X4_arrange_X9 hown hK (hRk _ _ hS) 0 rfl rfl 2 (by decide) (hN.w (w := .fieldLinkNest RX4 29 "BeatenInstead$Text" "lessons" "I" "BeatenInstead") 2 rfl rfl) (fun _ h9 => h9) rfl dX4_arrange_70 ?_
        refine lv_icmp_ge (tgt := 123) hx hb dX4_arrange_73 (by decide) (fun c_2 => ?_) (fun c_2 => ?_)
        · skip
          have c_2 : lessons ≤ i := (nI_leI (a := lessons) (b := i) (by omega) (by omega)).mp c_2
          exact hret _ _ ((g1, g2, bm)) _ _ dX4_arrange_123 ⟨hg0, hg1, by rw [zArr]; rw [show i = lessons by omega] at hg2; exact hg2⟩ hP hD hS
        · skip
          have c_2 : ¬ (lessons ≤ i) := (not_congr (nI_leI (a := lessons) (b := i) (by omega) (by omega))).mp c_2
          refine lv_iload hx hb dX4_arrange_76 (lv_at hl 7 rfl) ?_
          refine lv_iload hx hb dX4_arrange_78 (lv_at hl 0 rfl) ?_
          refine vp_callSi (z_runSN (As := [.int (nI taken), .int (nI i)]) (rest := []) hx hb hml hown hts hK hN hl.1 (c_X10_isIn l D cI cB cP taken i (by omega) (by omega)) gX4_arrange_X10_isIn_n34 rfl 54 rfl (List.mem_of_getElem? (i := 14) rfl) (List.mem_of_getElem? (i := 72) rfl) zd_X10_isIn rfl (by simp only [rmA]; omega) (by simp only [rmA]; omega) z_p0 rfl (Nat.le_of_ble_eq_true rfl) dX4_arrange_80 ⟨Nat.zero_le _, Nat.zero_le _⟩) (fun r hr => ?_)
          rcases hr with ⟨rfl, c_3⟩ | ⟨rfl, c_3⟩
          · skip
            refine lv_if_ne (tgt := 117) hx hb dX4_arrange_83 (by decide) (fun _ => ?_) (fun c => absurd c (by decide))
            refine lv_iinc (v := nI (i + 1)) (lv' := [(7, .int (nI (i + 1))), (0, .ref h0), (1, .ref q_tx), (2, .ref w0), (3, .int (nI f)), (4, .int st), (5, .int (nI place)), (6, .int (nI taken))]) hx hb dX4_arrange_117 hl (k := 0) rfl (nI_add (i) 1) (by decide) rfl (fun ls hl => ?_)
            refine lv_goto (tgt := 67) hx hb dX4_arrange_120 (by decide) ?_
            exact ih_67 g1 g2 bm (i + 1) (by omega) (hg0) (hg1) (by rw [zFo_skip c_3]; exact hg2) (by omega) ls _ _ hP hD hS hl
          · skip
            refine lv_if_ne (tgt := 117) hx hb dX4_arrange_83 (by decide) (fun c => absurd c (by decide)) (fun _ => ?_)
            refine lv_aload_n hx hb dX4_arrange_86 rfl (lv_at hl 1 rfl) ?_
            refine va_get (D := D) (ci := 4) (v := .ref q1) (C := RX4) (T := TX4) (N := 5) hx hb hts zi_X4_arrange_X4 hown hK hP 0 rfl rfl 0 (by decide) (hts (.fieldLink RX4 9 "BeatenInstead$Ordering" "path" "[I") (List.mem_of_getElem? (i := 5) rfl)) (fun _ h9 => h9) rfl dX4_arrange_87 ?_
            refine lv_iload hx hb dX4_arrange_90 (lv_at hl 6 rfl) ?_
            refine lv_iload hx hb dX4_arrange_92 (lv_at hl 0 rfl) ?_
            refine z_wv (Fn := fun u => [(h0, .inr (4, [.ref q1, .ref q2, .int (nI osz), .long (lN (10 ^ osz)), .long bm])), (q1, .inl (cI, 5, .inl (fun q_ => nI ((va_up g1 place i) q_)))), (q2, .inl (cI, 5, .inl (fun q_ => nI (g2 q_))))]) (z_wrunSN (As := [.ref q1, .int (nI place), .int (nI i)]) (rest := []) hx hb hml hown hts hK hN hl.1 (c_X10_put_n l D cI cB cP q1 5 g1 place i (by omega) (by omega)) gX4_arrange_X10_put_n54 rfl 61 rfl (List.mem_of_getElem? (i := 14) rfl) (List.mem_of_getElem? (i := 74) rfl) zd_X10_put rfl (by simp only [rmA]; omega) (by simp only [rmA]; omega) (hP.sub (ws' := [(q1, .inl (cI, 5, .inl (fun q_ => nI (g1 q_))))]) [1] rfl) (hD.sub (ws' := [(q1, .inl (cI, 5, .inl (fun q_ => nI (g1 q_))))]) [1] rfl rfl) z_p0 (fun _ h => absurd h List.not_mem_nil) rfl (Nat.le_of_ble_eq_true rfl) dX4_arrange_94 ⟨Nat.zero_le _, Nat.zero_le _⟩) hP hD hS hA [1] rfl (fun _ => rfl) (fun _ => rfl) (fun u H locs hr hP hD hS => ?_)
            have hP : va_P D vwCl [(h0, .inr (4, [.ref q1, .ref q2, .int (nI osz), .long (lN (10 ^ osz)), .long bm])), (q1, .inl (cI, 5, .inl (fun q_ => nI ((va_up g1 place i) q_)))), (q2, .inl (cI, 5, .inl (fun q_ => nI (g2 q_))))] H := hP
            have hD : va_D A [(h0, .inr (4, [.ref q1, .ref q2, .int (nI osz), .long (lN (10 ^ osz)), .long bm])), (q1, .inl (cI, 5, .inl (fun q_ => nI ((va_up g1 place i) q_)))), (q2, .inl (cI, 5, .inl (fun q_ => nI (g2 q_))))] := hD
            refine lv_aload_n hx hb dX4_arrange_97 rfl (lv_at hl 1 rfl) ?_
            refine lv_aload_n hx hb dX4_arrange_98 rfl (lv_at hl 2 rfl) ?_
            refine lv_aload_n hx hb dX4_arrange_99 rfl (lv_at hl 3 rfl) ?_
            refine lv_iload_n hx hb dX4_arrange_100 rfl (lv_at hl 4 rfl) ?_
            refine lv_iload hx hb dX4_arrange_101 (lv_at hl 5 rfl) ?_
            refine lv_iload hx hb dX4_arrange_103 (lv_at hl 6 rfl) ?_
            refine lv_iconst (v := 1) hx hb dX4_arrange_105 (by decide) ?_
            refine lv_iadd hx hb dX4_arrange_106 ?_
            refine z_top (show ((nI place) + 1) = nI (place + 1) from nI_add place 1) ?_
            refine lv_iload hx hb dX4_arrange_107 (lv_at hl 7 rfl) ?_
            refine lv_iconst (v := 1) hx hb dX4_arrange_109 (by decide) ?_
            refine lv_iload hx hb dX4_arrange_110 (lv_at hl 0 rfl) ?_
            refine lv_ishl hx hb dX4_arrange_112 ?_
            refine z_top (show (1 <<< ((nI i) &&& 31)) = nI (2 ^ i) from z_or10 i (by omega)) ?_
            refine lv_ior hx hb dX4_arrange_113 ?_
            refine z_top (show ((nI taken) ||| (nI (2 ^ i))) = nI (taken ||| 2 ^ i) from z_orn _ htk _ (by omega)) ?_
            refine z_wv (Fn := fun u => [(h0, .inr (4, [.ref q1, .ref q2, .int (nI osz), .long (lN (10 ^ osz)), .long u.2.2])), (q1, .inl (cI, 5, .inl (fun q_ => nI (u.1 q_)))), (q2, .inl (cI, 5, .inl (fun q_ => nI (u.2.1 q_))))]) (z_wrunV (b := h0) (As := [.ref q_tx, .ref w0, .int (nI f), .int st, .int (nI (place + 1)), .int (nI (taken ||| 2 ^ i))]) (rest := []) hx hb hml hown hts hK hN hl.1 (ih (va_up g1 place i) g2 bm (place + 1) (taken ||| 2 ^ i) (PP ++ [i]) (zFo (fun L_ => zMl wit kk limit hard blows L_ f st) lessons d PP taken sg i) (fun j => by unfold va_up; split; omega; exact hg1 j) (by omega) (z_or_lt _ htk _ (by omega)) (by rw [zSlice_put, hg0]) (hg2)) gX4_arrange_X4_arrange rfl zd_X4_arrange rfl (by simp only [rmA]; omega) (by simp only [rmA]; omega) (hP.sub (ws' := [(h0, .inr (4, [.ref q1, .ref q2, .int (nI osz), .long (lN (10 ^ osz)), .long bm])), (q1, .inl (cI, 5, .inl (fun q_ => nI ((va_up g1 place i) q_)))), (q2, .inl (cI, 5, .inl (fun q_ => nI (g2 q_))))]) [0, 1, 2] rfl) (hD.sub (ws' := [(h0, .inr (4, [.ref q1, .ref q2, .int (nI osz), .long (lN (10 ^ osz)), .long bm])), (q1, .inl (cI, 5, .inl (fun q_ => nI ((va_up g1 place i) q_)))), (q2, .inl (cI, 5, .inl (fun q_ => nI (g2 q_))))]) [0, 1, 2] rfl rfl) (va_P.sub (ws' := [(q_tx, .inr (9, [.ref t1, .ref t2, .int (nI lessons), .int (nI limit)])), (t1, .inl (cI, 5, .inl (fun q_ => nI (hard q_)))), (t2, .inl (cI, 5, .inl (fun q_ => nI (blows q_)))), (w0, .inr (zKi kk, [.int (nI wit)]))]) (hRk _ _ hS) [0, 1, 2, 3] rfl) (List.forall_mem_cons.mpr ⟨z_sepR hRA (va_free (wc := [(h0, .inr (4, [.ref q1, .ref q2, .int (nI osz), .long (lN (10 ^ osz)), .long bm])), (q1, .inl (cI, 5, .inl (fun q_ => nI ((va_up g1 place i) q_)))), (q2, .inl (cI, 5, .inl (fun q_ => nI (g2 q_))))]) hD hS hA [0, 1, 2] rfl) (List.mem_of_getElem? (i := 0) rfl), (List.forall_mem_cons.mpr ⟨z_sepR hRA (va_free (wc := [(h0, .inr (4, [.ref q1, .ref q2, .int (nI osz), .long (lN (10 ^ osz)), .long bm])), (q1, .inl (cI, 5, .inl (fun q_ => nI ((va_up g1 place i) q_)))), (q2, .inl (cI, 5, .inl (fun q_ => nI (g2 q_))))]) hD hS hA [0, 1, 2] rfl) (List.mem_of_getElem? (i := 1) rfl), (List.forall_mem_cons.mpr ⟨z_sepR hRA (va_free (wc := [(h0, .inr (4, [.ref q1, .ref q2, .int (nI osz), .long (lN (10 ^ osz)), .long bm])), (q1, .inl (cI, 5, .inl (fun q_ => nI ((va_up g1 place i) q_)))), (q2, .inl (cI, 5, .inl (fun q_ => nI (g2 q_))))]) hD hS hA [0, 1, 2] rfl) (List.mem_of_getElem? (i := 2) rfl), (List.forall_mem_cons.mpr ⟨z_sepR hRA (va_free (wc := [(h0, .inr (4, [.ref q1, .ref q2, .int (nI osz), .long (lN (10 ^ osz)), .long bm])), (q1, .inl (cI, 5, .inl (fun q_ => nI ((va_up g1 place i) q_)))), (q2, .inl (cI, 5, .inl (fun q_ => nI (g2 q_))))]) hD hS hA [0, 1, 2] rfl) (List.mem_of_getElem? (i := 3) rfl), (fun _ h => absurd h List.not_mem_nil)⟩)⟩)⟩)⟩) (va_recv hK hP (ci := 4) (q0 := 0) rfl rfl) rfl (Nat.le_of_ble_eq_true rfl) dX4_arrange_114 ⟨Nat.zero_le _, Nat.zero_le _⟩) hP hD hS hA [0, 1, 2] rfl (fun _ => rfl) (fun _ => rfl) (fun u H locs hr hP hD hS => ?_)
            obtain ⟨u_path_1, u_best_2, u_bm_3⟩ := u
            try dsimp only at hr
            have hP : va_P D vwCl [(h0, .inr (4, [.ref q1, .ref q2, .int (nI osz), .long (lN (10 ^ osz)), .long u_bm_3])), (q1, .inl (cI, 5, .inl (fun q_ => nI (u_path_1 q_)))), (q2, .inl (cI, 5, .inl (fun q_ => nI (u_best_2 q_))))] H := hP
            have hD : va_D A [(h0, .inr (4, [.ref q1, .ref q2, .int (nI osz), .long (lN (10 ^ osz)), .long u_bm_3])), (q1, .inl (cI, 5, .inl (fun q_ => nI (u_path_1 q_)))), (q2, .inl (cI, 5, .inl (fun q_ => nI (u_best_2 q_))))] := hD
            obtain ⟨hq1, hq2, hq3⟩ := hr
            refine lv_iinc (v := nI (i + 1)) (lv' := [(7, .int (nI (i + 1))), (0, .ref h0), (1, .ref q_tx), (2, .ref w0), (3, .int (nI f)), (4, .int st), (5, .int (nI place)), (6, .int (nI taken))]) hx hb dX4_arrange_117 hl (k := 0) rfl (nI_add (i) 1) (by decide) rfl (fun ls hl => ?_)
            refine lv_goto (tgt := 67) hx hb dX4_arrange_120 (by decide) ?_
            exact ih_67 u_path_1 u_best_2 u_bm_3 (i + 1) (by omega) (zSlice_init hq1) (hq2) (by rw [zFo_step c_3]; exact hq3) (by omega) ls _ _ hP hD hS hl
    exact loop_67 _ path best obm 0 (Nat.zero_le _) (hPP) (hpt) (by rw [zFo_0]; exact hsg) (Nat.lt_succ_self _) ls _ _ hP hD hS hl
  · skip
    have c_1 : ¬ (place < osz) := (not_congr (nI_ltI (a := place) (b := osz) (by omega) (by omega))).mp c_1
    exact absurd hpl (by omega)
theorem c_X4_arrange (l : Launch) (D : va_G) (cI cB cP : ClassId) (h0 : Nat) (q_tx : Nat) (q1 : Nat) (q2 : Nat) (osz : Nat) (t1 : Nat) (t2 : Nat) (lessons : Nat) (limit : Nat) (hard : Nat → Nat) (blows : Nat → Nat) (w0 : Nat) (kk : Nat) (wit : Nat) (f : Nat) (st : Int32) (hkk : kk < 5) (hwit : wit ≤ 9) (hha : ∀ i, hard i ≤ 9) (hbl : ∀ i, blows i ≤ 9) (hosz : osz ≤ 5) (hls : lessons ≤ 5) (hf : f ≤ 9) : ∀ (d : Nat) (path : Nat → Nat) (best : Nat → Nat) (obm : Int64) (place : Nat) (taken : Nat) (PP : List Nat) (sg : zSg) (hpt : ∀ j, path j < 5) (hpl : place + d = osz) (htk : taken < 32) (hPP : zSlice path 0 place = PP) (hsg : zOK sg obm best osz), zWv (S := (Nat → Nat) × (Nat → Nat) × Int64) l D cI cB cP yX4_arrange wsX4_arrange (rmA d) [.ref h0, .ref q_tx, .ref w0, .int (nI f), .int st, .int (nI place), .int (nI taken)] [(h0, .inr (4, [.ref q1, .ref q2, .int (nI osz), .long (lN (10 ^ osz)), .long obm])), (q1, .inl (cI, 5, .inl (fun q_ => nI (path q_)))), (q2, .inl (cI, 5, .inl (fun q_ => nI (best q_))))] ([(q_tx, .inr (9, [.ref t1, .ref t2, .int (nI lessons), .int (nI limit)])), (t1, .inl (cI, 5, .inl (fun q_ => nI (hard q_)))), (t2, .inl (cI, 5, .inl (fun q_ => nI (blows q_)))), (w0, .inr (zKi kk, [.int (nI wit)]))]) (fun u => zSlice u.1 0 place = PP ∧ (∀ j, u.1 j < 5) ∧ zOK (zArr (fun L_ => zMl wit kk limit hard blows L_ f st) lessons (d) PP taken sg) u.2.2 u.2.1 osz) (fun u => [(h0, .inr (4, [.ref q1, .ref q2, .int (nI osz), .long (lN (10 ^ osz)), .long u.2.2])), (q1, .inl (cI, 5, .inl (fun q_ => nI (u.1 q_)))), (q2, .inl (cI, 5, .inl (fun q_ => nI (u.2.1 q_))))]) := by
  intro d
  induction d with
  | zero => intro path best obm place taken PP sg hpt hpl htk hPP hsg; exact c_X4_arrange_z l D cI cB cP h0 q_tx q1 q2 osz t1 t2 lessons limit hard blows w0 kk wit f st path best obm place taken PP sg hkk hwit hha hbl hosz hls hf hpt hpl htk hPP hsg
  | succ d ih => intro path best obm place taken PP sg hpt hpl htk hPP hsg; exact c_X4_arrange_s l D cI cB cP h0 q_tx q1 q2 osz t1 t2 lessons limit hard blows w0 kk wit f st path best obm place taken PP sg d hkk hwit hha hbl hosz hls hf hpt hpl htk hPP hsg ih
