def zCnt (le : Nat) : Nat → Nat | 0 => 0 | n + 1 => if le / 2 ^ n % 2 = 1 then zCnt le n else zCnt le n + 1
theorem zCnt_le {le : Nat} : ∀ n, zCnt le n ≤ n := by
  intro n
  induction n with
  | zero => exact Nat.le_refl _
  | succ n ih => rw [zCnt]; split <;> omega
/-- all orders of the lessons that are not taken, by numbers -/
def zLv (lessons : Nat) : Nat → Nat → List (List Nat)
  | 0, _ => [[]]
  | d + 1, taken => (List.range lessons).flatMap (fun l => if taken / 2 ^ l % 2 = 1 then [] else (zLv lessons d (taken ||| 2 ^ l)).map (fun L => l :: L))
theorem z_foldFlat {α β γ : Type} (g : γ → β → γ) (f : α → List β) : ∀ (l : List α) (s : γ), (l.flatMap f).foldl g s = l.foldl (fun s a => (f a).foldl g s) s := by
  intro l
  induction l with
  | nil => intro s; rfl
  | cons a l ih => intro s; rw [List.flatMap_cons, List.foldl_append, List.foldl_cons, ih]
theorem z_foldMap {α β γ : Type} (g : γ → β → γ) (f : α → β) : ∀ (l : List α) (s : γ), (l.map f).foldl g s = l.foldl (fun s a => g s (f a)) s := by
  intro l
  induction l with
  | nil => intro s; rfl
  | cons a l ih => intro s; rw [List.map_cons, List.foldl_cons, List.foldl_cons, ih]
theorem z_foldCongr {α γ : Type} {g h : γ → α → γ} (e : ∀ s a, g s a = h s a) (l : List α) (s : γ) : l.foldl g s = l.foldl h s := by
  have : g = h := by funext s a; exact e s a
  rw [this]
theorem zArr_eq {mean : List Nat → Nat} {lessons : Nat} : ∀ (d : Nat) (P : List Nat) (taken : Nat) (x : zSg), zArr mean lessons d P taken x = (zLv lessons d taken).foldl (fun x L => zUpd x (mean (P ++ L)) (P ++ L)) x := by
  intro d
  induction d with
  | zero => intro P taken x; rw [zArr, zLv, List.foldl_cons, List.foldl_nil, List.append_nil]
  | succ d ih =>
    intro P taken x
    rw [zArr, zLv, z_foldFlat]
    refine z_foldCongr (fun s a => ?_) _ _
    split
    · rfl
    · rw [ih, z_foldMap]
      refine z_foldCongr (fun s L => ?_) _ _
      rw [List.append_assoc]; rfl
theorem zUpd_some {x : zSg} {m : Nat} {L : List Nat} : ∃ y, zUpd x m L = some y := by
  cases x with
  | none => exact ⟨_, rfl⟩
  | some q =>
    obtain ⟨b, B⟩ := q
    unfold zUpd
    dsimp only
    split
    · exact ⟨_, rfl⟩
    · exact ⟨_, rfl⟩
theorem z_foldUpd {mean : List Nat → Nat} : ∀ (l : List (List Nat)) (x : zSg), (l ≠ [] ∨ ∃ y, x = some y) → ∃ y, l.foldl (fun x L => zUpd x (mean L) L) x = some y := by
  intro l
  induction l with
  | nil => intro x h; rcases h with h | h; exact absurd rfl h; exact h
  | cons a l ih => intro x _; rw [List.foldl_cons]; exact ih _ (Or.inr zUpd_some)
theorem zLv_ne : ∀ lessons, lessons < 6 → ∀ le, le < 32 → zLv lessons (zCnt le lessons) le ≠ [] := by decide +kernel
theorem zArr_some {mean : List Nat → Nat} {lessons le : Nat} (hl : lessons ≤ 5) (h : le < 32) : ∃ b B, zArr mean lessons (zCnt le lessons) [] le none = some (b, B) := by
  rw [zArr_eq]
  obtain ⟨y, hy⟩ := z_foldUpd (mean := mean) (zLv lessons (zCnt le lessons) le) none (Or.inl (zLv_ne lessons (by omega) le h))
  exact ⟨y.1, y.2, hy⟩
theorem zSlice_getD (path : Nat → Nat) : ∀ (d p k : Nat), k < d → (zSlice path p d).getD k 0 = path (p + k) := by
  intro d
  induction d with
  | zero => intro p k h; omega
  | succ d ih =>
    intro p k h
    rw [zSlice]
    cases k with
    | zero => rfl
    | succ k => rw [List.getD_cons_succ, ih (p + 1) k (by omega)]; congr 1; omega
def zOrdM (np tO : Nat) (n w : Int32) : Nat := if n < 0 ∨ ¬ n < nI np then 0 else if ¬ (w = 0 ∨ w = 1 ∨ (¬ w < 10 ∧ w < nI 15)) then 1 else if 20 ≤ tO then 2 else 3
def zOrdS (kd wt hard blows : Nat → Nat) (lim lessons : Nat) (fond boys learnt : Nat → Nat) (stripes : Nat → Int32) (p : Nat) : zSg := zArr (fun L_ => zMl (wt p) (kd p) lim hard blows L_ (fond (p * 3 + boys p)) (stripes (boys p))) lessons (zCnt (learnt p) lessons) [] (learnt p) none
def zOrdA (x : zSg) (n : Nat) (w : Int32) : Int64 := match x with
  | none => 0
  | some (b, B) => if w < 10 then lN ((if w = 0 then b else 10 ^ n) / Nat.gcd b (10 ^ n)) else if w.toNatClampNeg - 10 < n then (nI (B.getD (w.toNatClampNeg - 10) 0)).toInt64 else -1
theorem z_w15 {w : Int32} (h : w = 0 ∨ w = 1 ∨ (¬ w < 10 ∧ w < nI 15)) (h2 : ¬ w < 10) : ∃ p : Nat, p < 5 ∧ w = nI (10 + p) := by
  have e10 : (10 : Int32) = nI 10 := rfl
  rcases h with rfl | rfl | ⟨h3, h4⟩
  · exact absurd (by decide) h2
  · exact absurd (by decide) h2
  · have h0 : ¬ w < 0 := by
      intro q
      apply h3
      rw [Int32.lt_iff_toInt_lt] at q ⊢
      have a0 : (0 : Int32).toInt = 0 := rfl
      have a1 : (10 : Int32).toInt = 10 := rfl
      omega
    obtain ⟨j, hj, rfl⟩ := z_natlt h0 h4 (by omega)
    rw [e10] at h3
    have := (not_congr (nI_ltI (a := j) (b := 10) (by omega) (by omega))).mp h3
    exact ⟨j - 10, by omega, by congr 1; omega⟩
theorem zi_X4_find_X4 : ∀ w ∈ wsX40, w ∈ wsX4_find := fun _ h => List.mem_cons_of_mem _ (List.mem_append_left _ (List.mem_append_left _ (List.mem_append_left _ (List.mem_append_left _ (List.mem_append_left _ (List.mem_append_left _ (List.mem_append_right _ (h))))))))
theorem zi_X4_find_X9 : ∀ w ∈ wsX90, w ∈ wsX4_find := fun _ h => List.mem_cons_of_mem _ (List.mem_append_left _ (List.mem_append_left _ (List.mem_append_left _ (List.mem_append_left _ (List.mem_append_left _ (List.mem_append_right _ (h)))))))
abbrev rm_X4_find : Room := { frames := 40, cells := 0, slots := 0, locals := 1200 }
set_option maxHeartbeats 4000000 in
set_option maxRecDepth 100000 in
theorem c_X4_find (l : Launch) (D : va_G) (cI cB cP : ClassId) (h0 : Nat) (q_tx : Nat) (q1 : Nat) (q2 : Nat) (osz : Nat) (owh : Int64) (obm : Int64) (path : Nat → Nat) (best : Nat → Nat) (t1 : Nat) (t2 : Nat) (lessons : Nat) (limit : Nat) (hard : Nat → Nat) (blows : Nat → Nat) (w0 : Nat) (kk : Nat) (wit : Nat) (f : Nat) (st : Int32) (le : Nat) (hkk : kk < 5) (hwit : wit ≤ 9) (hha : ∀ i, hard i ≤ 9) (hbl : ∀ i, blows i ≤ 9) (hls : lessons ≤ 5) (hf : f ≤ 9) (hpt : ∀ j, path j < 5) (htk : le < 32)  : zWv (S := (Nat → Nat) × (Nat → Nat) × Int64) l D cI cB cP yX4_find wsX4_find rm_X4_find [.ref h0, .ref q_tx, .ref w0, .int (nI le), .int (nI f), .int st] [(h0, .inr (4, [.ref q1, .ref q2, .int (nI osz), .long owh, .long obm])), (q1, .inl (cI, 5, .inl (fun q_ => nI (path q_)))), (q2, .inl (cI, 5, .inl (fun q_ => nI (best q_))))] ([(q_tx, .inr (9, [.ref t1, .ref t2, .int (nI lessons), .int (nI limit)])), (t1, .inl (cI, 5, .inl (fun q_ => nI (hard q_)))), (t2, .inl (cI, 5, .inl (fun q_ => nI (blows q_)))), (w0, .inr (zKi kk, [.int (nI wit)]))]) (fun u => (∀ j, u.1 j < 5) ∧ zOK (zArr (fun L_ => zMl wit kk limit hard blows L_ f st) lessons (zCnt le lessons) [] le none) u.2.2 u.2.1 (zCnt le lessons)) (fun u => [(h0, .inr (4, [.ref q1, .ref q2, .int (nI (zCnt le lessons)), .long (lN (10 ^ zCnt le lessons)), .long u.2.2])), (q1, .inl (cI, 5, .inl (fun q_ => nI (u.1 q_)))), (q2, .inl (cI, 5, .inl (fun q_ => nI (u.2.1 q_))))]) := by
  refine zWv_of (cc := cX4_find) (maxL := 7) (by decide) rfl (Nat.le_of_ble_eq_true rfl) ?_
  intro p e s m args below meth c ls Q A H locs hx hb hml hts hown hP hD hS hA hRk hRA hK hN hl hret
  have hown : s.vm.findClass RX4 = some m.cls := hown
  have hl : lv_has ls 7 [(0, .ref h0), (1, .ref q_tx), (2, .ref w0), (3, .int (nI le)), (4, .int (nI f)), (5, .int st)] := hl
  refine lv_aload_n hx hb dX4_find_0 rfl (lv_at hl 0 rfl) ?_
  refine lv_iconst (v := 0) hx hb dX4_find_1 (by decide) ?_
  refine va_put (D := D) (ci := 4) (v := .int 0) (ty := .int) (C := RX4) (T := TX4) (N := 5) hx hb hts zi_X4_find_X4 tyX4 tyX4_ok nmX4 hown hK hP hD hS 0 rfl rfl 2 (by decide) (hts (.fieldLink RX4 18 "BeatenInstead$Ordering" "size" "I") (List.mem_of_getElem? (i := 1) rfl)) (fun _ h9 => h9) rfl rfl rfl rfl (Nat.le_of_ble_eq_true rfl) dX4_find_2 (fun H locs hP hD hS => ?_)
  have hP : va_P D vwCl [(h0, .inr (4, [.ref q1, .ref q2, .int 0, .long owh, .long obm])), (q1, .inl (cI, 5, .inl (fun q_ => nI (path q_)))), (q2, .inl (cI, 5, .inl (fun q_ => nI (best q_))))] H := hP
  have hD : va_D A [(h0, .inr (4, [.ref q1, .ref q2, .int 0, .long owh, .long obm])), (q1, .inl (cI, 5, .inl (fun q_ => nI (path q_)))), (q2, .inl (cI, 5, .inl (fun q_ => nI (best q_))))] := hD
  refine lv_aload_n hx hb dX4_find_5 rfl (lv_at hl 0 rfl) ?_
  refine lv_lconst (v := 1) hx hb dX4_find_6 (by decide) ?_
  refine va_put (D := D) (ci := 4) (v := .long 1) (ty := .long) (C := RX4) (T := TX4) (N := 5) hx hb hts zi_X4_find_X4 tyX4 tyX4_ok nmX4 hown hK hP hD hS 0 rfl rfl 3 (by decide) (hts (.fieldLink RX4 22 "BeatenInstead$Ordering" "whole" "J") (List.mem_of_getElem? (i := 2) rfl)) (fun _ h9 => h9) rfl rfl rfl rfl (Nat.le_of_ble_eq_true rfl) dX4_find_7 (fun H locs hP hD hS => ?_)
  have hP : va_P D vwCl [(h0, .inr (4, [.ref q1, .ref q2, .int 0, .long 1, .long obm])), (q1, .inl (cI, 5, .inl (fun q_ => nI (path q_)))), (q2, .inl (cI, 5, .inl (fun q_ => nI (best q_))))] H := hP
  have hD : va_D A [(h0, .inr (4, [.ref q1, .ref q2, .int 0, .long 1, .long obm])), (q1, .inl (cI, 5, .inl (fun q_ => nI (path q_)))), (q2, .inl (cI, 5, .inl (fun q_ => nI (best q_))))] := hD
  refine lv_iconst (v := 0) hx hb dX4_find_10 (by decide) ?_
  refine lv_istore (lv' := [(6, .int 0), (0, .ref h0), (1, .ref q_tx), (2, .ref w0), (3, .int (nI le)), (4, .int (nI f)), (5, .int st)]) hx hb dX4_find_11 hl (by decide) rfl (fun ls hl => ?_)
  have loop_13 : ∀ (fu_13 : Nat) (z i : Nat), (i ≤ lessons) → (z = zCnt le i) → lessons - i < fu_13 → ∀ (ls : Array Slot) (H : Heap) (locs : List Loc), va_P D vwCl [(h0, .inr (4, [.ref q1, .ref q2, .int (nI z), .long (lN (10 ^ z)), .long obm])), (q1, .inl (cI, 5, .inl (fun q_ => nI (path q_)))), (q2, .inl (cI, 5, .inl (fun q_ => nI (best q_))))] H → va_D A [(h0, .inr (4, [.ref q1, .ref q2, .int (nI z), .long (lN (10 ^ z)), .long obm])), (q1, .inl (cI, 5, .inl (fun q_ => nI (path q_)))), (q2, .inl (cI, 5, .inl (fun q_ => nI (best q_))))] → va_S A s.heap H locs → lv_has ls 7 [(6, .int (nI i)), (0, .ref h0), (1, .ref q_tx), (2, .ref w0), (3, .int (nI le)), (4, .int (nI f)), (5, .int st)] → W p l e rm_X4_find s m args below meth c H locs 0 0 Q (F0 m 13 ls []) := by
    intro fu_13
    induction fu_13 with
    | zero => intro z i hi hz hn_13; exact absurd hn_13 (by omega)
    | succ fu_13 ih_13 =>
      intro z i hi hz hn_13 ls H locs hP hD hS hl
      have hzi : z ≤ i := by rw [hz]; exact zCnt_le i
      refine lv_iload hx hb dX4_find_13 (lv_at hl 0 rfl) ?_
      refine lv_aload_n hx hb dX4_find_15 rfl (lv_at hl 2 rfl) ?_
      refine va_getN (D := D) (ci := 9) (v := .int (nI lessons)) (C := RX9) (T := TX9) (N := 4) hx hb hts zi_X4_find_X9 hown hK (hRk _ _ hS) 0 rfl rfl 2 (by decide) (hN.w (w := .fieldLinkNest RX4 29 "BeatenInstead$Text" "lessons" "I" "BeatenInstead") 2 rfl rfl) (fun _ h9 => h9) rfl dX4_find_16 ?_
      refine lv_icmp_ge (tgt := 59) hx hb dX4_find_19 (by decide) (fun c_1 => ?_) (fun c_1 => ?_)
      · skip
        have c_1 : lessons ≤ i := (nI_leI (a := lessons) (b := i) (by omega) (by omega)).mp c_1
        have hz2 : z = zCnt le lessons := by rw [hz, show i = lessons by omega]
        refine lv_aload_n hx hb dX4_find_59 rfl (lv_at hl 1 rfl) ?_
        refine lv_ldc2 (v := (-1)) hx hb hown (hts (.constantLong RX4 40 (-1)) (List.mem_of_getElem? (i := 4) rfl)) dX4_find_60 ?_
        refine va_put (D := D) (ci := 4) (v := .long (-1)) (ty := .long) (C := RX4) (T := TX4) (N := 5) hx hb hts zi_X4_find_X4 tyX4 tyX4_ok nmX4 hown hK hP hD hS 0 rfl rfl 4 (by decide) (hts (.fieldLink RX4 26 "BeatenInstead$Ordering" "bestMean" "J") (List.mem_of_getElem? (i := 5) rfl)) (fun _ h9 => h9) rfl rfl rfl rfl (Nat.le_of_ble_eq_true rfl) dX4_find_63 (fun H locs hP hD hS => ?_)
        have hP : va_P D vwCl [(h0, .inr (4, [.ref q1, .ref q2, .int (nI z), .long (lN (10 ^ z)), .long (-1)])), (q1, .inl (cI, 5, .inl (fun q_ => nI (path q_)))), (q2, .inl (cI, 5, .inl (fun q_ => nI (best q_))))] H := hP
        have hD : va_D A [(h0, .inr (4, [.ref q1, .ref q2, .int (nI z), .long (lN (10 ^ z)), .long (-1)])), (q1, .inl (cI, 5, .inl (fun q_ => nI (path q_)))), (q2, .inl (cI, 5, .inl (fun q_ => nI (best q_))))] := hD
        refine lv_aload_n hx hb dX4_find_66 rfl (lv_at hl 1 rfl) ?_
        refine lv_aload_n hx hb dX4_find_67 rfl (lv_at hl 2 rfl) ?_
        refine lv_aload_n hx hb dX4_find_68 rfl (lv_at hl 3 rfl) ?_
        refine lv_iload hx hb dX4_find_69 (lv_at hl 5 rfl) ?_
        refine lv_iload hx hb dX4_find_71 (lv_at hl 6 rfl) ?_
        refine lv_iconst (v := 0) hx hb dX4_find_73 (by decide) ?_
        refine lv_iload_n hx hb dX4_find_74 rfl (lv_at hl 4 rfl) ?_
        refine z_wv (Fn := fun u => [(h0, .inr (4, [.ref q1, .ref q2, .int (nI z), .long (lN (10 ^ z)), .long u.2.2])), (q1, .inl (cI, 5, .inl (fun q_ => nI (u.1 q_)))), (q2, .inl (cI, 5, .inl (fun q_ => nI (u.2.1 q_))))]) (z_wrunV (b := h0) (As := [.ref q_tx, .ref w0, .int (nI f), .int st, .int 0, .int (nI le)]) (rest := []) hx hb hml hown hts hK hN hl.1 (c_X4_arrange l D cI cB cP h0 q_tx q1 q2 z t1 t2 lessons limit hard blows w0 kk wit f st hkk hwit hha hbl (by omega) hls hf z path best (-1) 0 le ([]) none hpt (by omega) htk rfl rfl) gX4_find_X4_arrange rfl zd_X4_arrange rfl (by first | exact Nat.le_of_ble_eq_true rfl | (simp only [rmA, rm_X4_find]; omega)) (by first | exact Nat.le_of_ble_eq_true rfl | (simp only [rmA, rm_X4_find]; omega)) (hP.sub (ws' := [(h0, .inr (4, [.ref q1, .ref q2, .int (nI z), .long (lN (10 ^ z)), .long (-1)])), (q1, .inl (cI, 5, .inl (fun q_ => nI (path q_)))), (q2, .inl (cI, 5, .inl (fun q_ => nI (best q_))))]) [0, 1, 2] rfl) (hD.sub (ws' := [(h0, .inr (4, [.ref q1, .ref q2, .int (nI z), .long (lN (10 ^ z)), .long (-1)])), (q1, .inl (cI, 5, .inl (fun q_ => nI (path q_)))), (q2, .inl (cI, 5, .inl (fun q_ => nI (best q_))))]) [0, 1, 2] rfl rfl) (va_P.sub (ws' := [(q_tx, .inr (9, [.ref t1, .ref t2, .int (nI lessons), .int (nI limit)])), (t1, .inl (cI, 5, .inl (fun q_ => nI (hard q_)))), (t2, .inl (cI, 5, .inl (fun q_ => nI (blows q_)))), (w0, .inr (zKi kk, [.int (nI wit)]))]) (hRk _ _ hS) [0, 1, 2, 3] rfl) (List.forall_mem_cons.mpr ⟨z_sepR hRA (va_free (wc := [(h0, .inr (4, [.ref q1, .ref q2, .int (nI z), .long (lN (10 ^ z)), .long (-1)])), (q1, .inl (cI, 5, .inl (fun q_ => nI (path q_)))), (q2, .inl (cI, 5, .inl (fun q_ => nI (best q_))))]) hD hS hA [0, 1, 2] rfl) (List.mem_of_getElem? (i := 0) rfl), (List.forall_mem_cons.mpr ⟨z_sepR hRA (va_free (wc := [(h0, .inr (4, [.ref q1, .ref q2, .int (nI z), .long (lN (10 ^ z)), .long (-1)])), (q1, .inl (cI, 5, .inl (fun q_ => nI (path q_)))), (q2, .inl (cI, 5, .inl (fun q_ => nI (best q_))))]) hD hS hA [0, 1, 2] rfl) (List.mem_of_getElem? (i := 1) rfl), (List.forall_mem_cons.mpr ⟨z_sepR hRA (va_free (wc := [(h0, .inr (4, [.ref q1, .ref q2, .int (nI z), .long (lN (10 ^ z)), .long (-1)])), (q1, .inl (cI, 5, .inl (fun q_ => nI (path q_)))), (q2, .inl (cI, 5, .inl (fun q_ => nI (best q_))))]) hD hS hA [0, 1, 2] rfl) (List.mem_of_getElem? (i := 2) rfl), (List.forall_mem_cons.mpr ⟨z_sepR hRA (va_free (wc := [(h0, .inr (4, [.ref q1, .ref q2, .int (nI z), .long (lN (10 ^ z)), .long (-1)])), (q1, .inl (cI, 5, .inl (fun q_ => nI (path q_)))), (q2, .inl (cI, 5, .inl (fun q_ => nI (best q_))))]) hD hS hA [0, 1, 2] rfl) (List.mem_of_getElem? (i := 3) rfl), (fun _ h => absurd h List.not_mem_nil)⟩)⟩)⟩)⟩) (va_recv hK hP (ci := 4) (q0 := 0) rfl rfl) rfl (Nat.le_of_ble_eq_true rfl) dX4_find_75 ⟨Nat.zero_le _, Nat.zero_le _⟩) hP hD hS hA [0, 1, 2] rfl (fun _ => rfl) (fun _ => rfl) (fun u H locs hr hP hD hS => ?_)
        obtain ⟨u_path_1, u_best_2, u_bm_3⟩ := u
        try dsimp only at hr
        have hP : va_P D vwCl [(h0, .inr (4, [.ref q1, .ref q2, .int (nI z), .long (lN (10 ^ z)), .long u_bm_3])), (q1, .inl (cI, 5, .inl (fun q_ => nI (u_path_1 q_)))), (q2, .inl (cI, 5, .inl (fun q_ => nI (u_best_2 q_))))] H := hP
        have hD : va_D A [(h0, .inr (4, [.ref q1, .ref q2, .int (nI z), .long (lN (10 ^ z)), .long u_bm_3])), (q1, .inl (cI, 5, .inl (fun q_ => nI (u_path_1 q_)))), (q2, .inl (cI, 5, .inl (fun q_ => nI (u_best_2 q_))))] := hD
        obtain ⟨hq1, hq2, hq3⟩ := hr
        have eW : ([(h0, .inr (4, [.ref q1, .ref q2, .int (nI (zCnt le lessons)), .long (lN (10 ^ zCnt le lessons)), .long u_bm_3])), (q1, .inl (cI, 5, .inl (fun q_ => nI (u_path_1 q_)))), (q2, .inl (cI, 5, .inl (fun q_ => nI (u_best_2 q_))))] : va_W) = [(h0, .inr (4, [.ref q1, .ref q2, .int (nI z), .long (lN (10 ^ z)), .long u_bm_3])), (q1, .inl (cI, 5, .inl (fun q_ => nI (u_path_1 q_)))), (q2, .inl (cI, 5, .inl (fun q_ => nI (u_best_2 q_))))] := by rw [← hz2]
        exact hret _ _ ((u_path_1, u_best_2, u_bm_3)) _ _ dX4_find_78 ⟨hq2, by rw [← hz2]; exact hq3⟩ (Eq.mpr (congrArg (fun w => va_P D vwCl w H) eW) hP) (Eq.mpr (congrArg (fun w => va_D A w) eW) hD) hS
      · skip
        have c_1 : ¬ (lessons ≤ i) := (not_congr (nI_leI (a := lessons) (b := i) (by omega) (by omega))).mp c_1
        refine lv_iload_n hx hb dX4_find_22 rfl (lv_at hl 4 rfl) ?_
        refine lv_iload hx hb dX4_find_23 (lv_at hl 0 rfl) ?_
        refine vp_callSi (z_runSN (As := [.int (nI le), .int (nI i)]) (rest := []) hx hb hml hown hts hK hN hl.1 (c_X10_isIn l D cI cB cP le i (by omega) (by omega)) gX4_find_X10_isIn_n34 rfl 54 rfl (List.mem_of_getElem? (i := 7) rfl) (List.mem_of_getElem? (i := 6) rfl) zd_X10_isIn rfl (by first | exact Nat.le_of_ble_eq_true rfl | (simp only [rmA, rm_X4_find]; omega)) (by first | exact Nat.le_of_ble_eq_true rfl | (simp only [rmA, rm_X4_find]; omega)) z_p0 rfl (Nat.le_of_ble_eq_true rfl) dX4_find_25 ⟨Nat.zero_le _, Nat.zero_le _⟩) (fun r hr => ?_)
        rcases hr with ⟨rfl, c_2⟩ | ⟨rfl, c_2⟩
        · skip
          refine lv_if_ne (tgt := 53) hx hb dX4_find_28 (by decide) (fun _ => ?_) (fun c => absurd c (by decide))
          refine lv_iinc (v := nI (i + 1)) (lv' := [(6, .int (nI (i + 1))), (0, .ref h0), (1, .ref q_tx), (2, .ref w0), (3, .int (nI le)), (4, .int (nI f)), (5, .int st)]) hx hb dX4_find_53 hl (k := 0) rfl (nI_add (i) 1) (by decide) rfl (fun ls hl => ?_)
          refine lv_goto (tgt := 13) hx hb dX4_find_56 (by decide) ?_
          exact ih_13 z (i + 1) (by omega) (by rw [hz, zCnt, if_pos c_2]) (by omega) ls _ _ hP hD hS hl
        · skip
          refine lv_if_ne (tgt := 53) hx hb dX4_find_28 (by decide) (fun c => absurd c (by decide)) (fun _ => ?_)
          refine lv_aload_n hx hb dX4_find_31 rfl (lv_at hl 1 rfl) ?_
          refine lv_dup hx hb dX4_find_32 rfl ?_
          refine va_get (D := D) (ci := 4) (v := .int (nI z)) (C := RX4) (T := TX4) (N := 5) hx hb hts zi_X4_find_X4 hown hK hP 0 rfl rfl 2 (by decide) (hts (.fieldLink RX4 18 "BeatenInstead$Ordering" "size" "I") (List.mem_of_getElem? (i := 1) rfl)) (fun _ h9 => h9) rfl dX4_find_33 ?_
          refine lv_iconst (v := 1) hx hb dX4_find_36 (by decide) ?_
          refine lv_iadd hx hb dX4_find_37 ?_
          refine z_top (show ((nI z) + 1) = nI (z + 1) from nI_add z 1) ?_
          refine va_put (D := D) (ci := 4) (v := .int (nI (z + 1))) (ty := .int) (C := RX4) (T := TX4) (N := 5) hx hb hts zi_X4_find_X4 tyX4 tyX4_ok nmX4 hown hK hP hD hS 0 rfl rfl 2 (by decide) (hts (.fieldLink RX4 18 "BeatenInstead$Ordering" "size" "I") (List.mem_of_getElem? (i := 1) rfl)) (fun _ h9 => h9) rfl rfl rfl rfl (Nat.le_of_ble_eq_true rfl) dX4_find_38 (fun H locs hP hD hS => ?_)
          have hP : va_P D vwCl [(h0, .inr (4, [.ref q1, .ref q2, .int (nI (z + 1)), .long (lN (10 ^ z)), .long obm])), (q1, .inl (cI, 5, .inl (fun q_ => nI (path q_)))), (q2, .inl (cI, 5, .inl (fun q_ => nI (best q_))))] H := hP
          have hD : va_D A [(h0, .inr (4, [.ref q1, .ref q2, .int (nI (z + 1)), .long (lN (10 ^ z)), .long obm])), (q1, .inl (cI, 5, .inl (fun q_ => nI (path q_)))), (q2, .inl (cI, 5, .inl (fun q_ => nI (best q_))))] := hD
          refine lv_aload_n hx hb dX4_find_41 rfl (lv_at hl 1 rfl) ?_
          refine lv_dup hx hb dX4_find_42 rfl ?_
          refine va_get (D := D) (ci := 4) (v := .long (lN (10 ^ z))) (C := RX4) (T := TX4) (N := 5) hx hb hts zi_X4_find_X4 hown hK hP 0 rfl rfl 3 (by decide) (hts (.fieldLink RX4 22 "BeatenInstead$Ordering" "whole" "J") (List.mem_of_getElem? (i := 2) rfl)) (fun _ h9 => h9) rfl dX4_find_43 ?_
          refine lv_ldc2 (v := (10)) hx hb hown (hts (.constantLong RX4 38 (10)) (List.mem_of_getElem? (i := 3) rfl)) dX4_find_46 ?_
          refine lv_lmul hx hb dX4_find_49 ?_
          refine z_topl (show ((lN (10 ^ z)) * 10) = lN (10 ^ (z + 1)) from by rw [show (10 : Int64) = lN 10 from rfl, lN_mul, Nat.pow_succ]) ?_
          refine va_put (D := D) (ci := 4) (v := .long (lN (10 ^ (z + 1)))) (ty := .long) (C := RX4) (T := TX4) (N := 5) hx hb hts zi_X4_find_X4 tyX4 tyX4_ok nmX4 hown hK hP hD hS 0 rfl rfl 3 (by decide) (hts (.fieldLink RX4 22 "BeatenInstead$Ordering" "whole" "J") (List.mem_of_getElem? (i := 2) rfl)) (fun _ h9 => h9) rfl rfl rfl rfl (Nat.le_of_ble_eq_true rfl) dX4_find_50 (fun H locs hP hD hS => ?_)
          have hP : va_P D vwCl [(h0, .inr (4, [.ref q1, .ref q2, .int (nI (z + 1)), .long (lN (10 ^ (z + 1))), .long obm])), (q1, .inl (cI, 5, .inl (fun q_ => nI (path q_)))), (q2, .inl (cI, 5, .inl (fun q_ => nI (best q_))))] H := hP
          have hD : va_D A [(h0, .inr (4, [.ref q1, .ref q2, .int (nI (z + 1)), .long (lN (10 ^ (z + 1))), .long obm])), (q1, .inl (cI, 5, .inl (fun q_ => nI (path q_)))), (q2, .inl (cI, 5, .inl (fun q_ => nI (best q_))))] := hD
          refine lv_iinc (v := nI (i + 1)) (lv' := [(6, .int (nI (i + 1))), (0, .ref h0), (1, .ref q_tx), (2, .ref w0), (3, .int (nI le)), (4, .int (nI f)), (5, .int st)]) hx hb dX4_find_53 hl (k := 0) rfl (nI_add (i) 1) (by decide) rfl (fun ls hl => ?_)
          refine lv_goto (tgt := 13) hx hb dX4_find_56 (by decide) ?_
          exact ih_13 (z + 1) (i + 1) (by omega) (by rw [hz, zCnt, if_neg c_2]) (by omega) ls _ _ hP hD hS hl
  exact loop_13 _ 0 0 (Nat.zero_le _) (rfl) (Nat.lt_succ_self _) ls _ _ hP hD hS hl

theorem zi_X4_lessonAt_X4 : ∀ w ∈ wsX40, w ∈ wsX4_lessonAt := fun _ h => List.mem_cons_of_mem _ (List.mem_append_right _ (h))
abbrev rm_X4_lessonAt : Room := { frames := 1, cells := 0, slots := 0, locals := 21 }
set_option maxHeartbeats 4000000 in
set_option maxRecDepth 100000 in
theorem c_X4_lessonAt (l : Launch) (D : va_G) (cI cB cP : ClassId) (h0 : Nat) (q1 : Nat) (q2 : Nat) (osz : Nat) (owh : Int64) (obm : Int64) (best : Nat → Nat) (k : Nat) (hk : k < 5) (hosz : osz ≤ 5)  : zPi l D cI cB cP yX4_lessonAt wsX4_lessonAt rm_X4_lessonAt [.ref h0, .int (nI k)] ([(h0, .inr (4, [.ref q1, .ref q2, .int (nI osz), .long owh, .long obm])), (q2, .inl (cI, 5, .inl (fun q_ => nI (best q_))))]) (fun r => r = if k < osz then nI (best k) else -1) := by
  refine zPi_of (cc := cX4_lessonAt) (maxL := 2) (by decide) rfl (Nat.le_of_ble_eq_true rfl) ?_
  intro p e s m args below meth c ls Q hx hb hml hts hown hP hK hN hl hret
  have hown : s.vm.findClass RX4 = some m.cls := hown
  have hl : lv_has ls 2 [(0, .ref h0), (1, .int (nI k))] := hl
  refine lv_iload_n hx hb dX4_lessonAt_0 rfl (lv_at hl 1 rfl) ?_
  refine lv_aload_n hx hb dX4_lessonAt_1 rfl (lv_at hl 0 rfl) ?_
  refine va_get (D := D) (ci := 4) (v := .int (nI osz)) (C := RX4) (T := TX4) (N := 5) hx hb hts zi_X4_lessonAt_X4 hown hK hP 0 rfl rfl 2 (by decide) (hts (.fieldLink RX4 18 "BeatenInstead$Ordering" "size" "I") (List.mem_of_getElem? (i := 1) rfl)) (fun _ h9 => h9) rfl dX4_lessonAt_2 ?_
  refine lv_icmp_ge (tgt := 19) hx hb dX4_lessonAt_5 (by decide) (fun c_1 => ?_) (fun c_1 => ?_)
  · skip
    have c_1 : osz ≤ k := (nI_leI (a := osz) (b := k) (by omega) (by omega)).mp c_1
    refine lv_iconst (v := (-1)) hx hb dX4_lessonAt_19 (by decide) ?_
    exact hret _ _ _ dX4_lessonAt_20 (by rw [if_neg (by omega)])
  · skip
    have c_1 : ¬ (osz ≤ k) := (not_congr (nI_leI (a := osz) (b := k) (by omega) (by omega))).mp c_1
    refine lv_aload_n hx hb dX4_lessonAt_8 rfl (lv_at hl 0 rfl) ?_
    refine va_get (D := D) (ci := 4) (v := .ref q2) (C := RX4) (T := TX4) (N := 5) hx hb hts zi_X4_lessonAt_X4 hown hK hP 0 rfl rfl 1 (by decide) (hts (.fieldLink RX4 15 "BeatenInstead$Ordering" "best" "[I") (List.mem_of_getElem? (i := 2) rfl)) (fun _ h9 => h9) rfl dX4_lessonAt_9 ?_
    refine lv_iload_n hx hb dX4_lessonAt_12 rfl (lv_at hl 1 rfl) ?_
    refine vp_callSi (z_runSN (As := [.ref q2, .int (nI k)]) (rest := []) hx hb hml hown hts hK hN hl.1 (c_X10_at_n l D cI cB cP q2 5 best k (by omega) (hk)) gX4_lessonAt_X10_at_n58 rfl 55 rfl (List.mem_of_getElem? (i := 4) rfl) (List.mem_of_getElem? (i := 3) rfl) zd_X10_at rfl (Nat.le_of_ble_eq_true rfl) (Nat.le_of_ble_eq_true rfl) (va_P.sub (ws' := [(q2, .inl (cI, 5, .inl (fun q_ => nI (best q_))))]) hP [1] rfl) rfl (Nat.le_of_ble_eq_true rfl) dX4_lessonAt_13 ⟨Nat.zero_le _, Nat.zero_le _⟩) (fun r hr => ?_)
    subst hr
    refine lv_goto (tgt := 20) hx hb dX4_lessonAt_16 (by decide) ?_
    exact hret _ _ _ dX4_lessonAt_20 (by rw [if_pos (by omega)])
