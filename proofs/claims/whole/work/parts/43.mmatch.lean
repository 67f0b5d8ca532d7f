def zMm (F : Nat → Nat) : Nat → Int32 × Nat
  | 0 => (-1, 268435456)
  | k + 1 => if F k < (zMm F k).2 then (nI k, F k) else zMm F k
def zStM (F : Nat → Nat) (s : Int32 × Nat) (k : Nat) : Int32 × Nat := if F k < s.2 then (nI k, F k) else s
def zStC (G : Nat → Nat) (s : Nat × Nat) (r : Nat) : Nat × Nat := if G r < s.2 then (r, G r) else s
theorem zMm_fold (F : Nat → Nat) : ∀ n, zMm F n = (List.range n).foldl (zStM F) (-1, 268435456) := by
  intro n
  induction n with
  | zero => rfl
  | succ n ih => rw [List.range_succ, List.foldl_append, ← ih]; rfl
theorem zSkipM {F : Nat → Nat} {V : Nat → Bool} (hV : ∀ k, V k = false → F k = 268435456) (hF : ∀ k, F k ≤ 268435456) : ∀ (l : List Nat) (s : Int32 × Nat), s.2 ≤ 268435456 → l.foldl (zStM F) s = (l.filter V).foldl (zStM F) s := by
  intro l
  induction l with
  | nil => intro s _; rfl
  | cons k l ih =>
    intro s hs
    have h2 : (zStM F s k).2 ≤ 268435456 := by
      unfold zStM
      split
      · exact hF k
      · exact hs
    rw [List.foldl_cons, ih _ h2, List.filter_cons]
    cases hk : V k with
    | true => rw [if_pos rfl, List.foldl_cons]
    | false =>
      have e : zStM F s k = s := by
        show (if F k < s.2 then (nI k, F k) else s) = s
        rw [if_neg (by rw [hV k hk]; omega)]
      rw [if_neg (by decide), e]
def zVd (dg : Nat → Nat) : Nat → Nat → Nat → Bool
  | 0, _, _ => true
  | d + 1, p, u => if u / 2 ^ dg p % 2 = 1 then false else zVd dg d (p + 1) (u ||| 2 ^ dg p)
def zSmC (dg : Nat → Nat) (cost : Nat → Nat → Nat) : Nat → Nat → Nat
  | 0, _ => 0
  | d + 1, p => cost p (dg p) + zSmC dg cost d (p + 1)
theorem zMb_val {dg : Nat → Nat} {cost : Nat → Nat → Nat} : ∀ (d p u a : Nat), zMb dg cost d p u a = if zVd dg d p u = true then a + zSmC dg cost d p else 268435456 := by
  intro d
  induction d with
  | zero => intro p u a; simp [zMb, zVd, zSmC]
  | succ d ih =>
    intro p u a
    rw [zMb, zVd, zSmC]
    by_cases h : u / 2 ^ dg p % 2 = 1
    · rw [if_pos h, if_pos h, if_neg (by decide)]
    · rw [if_neg h, if_neg h, ih, Nat.add_assoc]
theorem zSmC_le {dg : Nat → Nat} {cost : Nat → Nat → Nat} (h : ∀ p b, cost p b ≤ 90) : ∀ d p, zSmC dg cost d p ≤ 90 * d := by
  intro d
  induction d with
  | zero => intro p; rw [zSmC]; omega
  | succ d ih => intro p; rw [zSmC]; have h1 := h p (dg p); have h2 := ih (p + 1); omega
theorem zSmC_snoc {dg : Nat → Nat} {cost : Nat → Nat → Nat} : ∀ d p, zSmC dg cost (d + 1) p = zSmC dg cost d p + cost (p + d) (dg (p + d)) := by
  intro d
  induction d with
  | zero => intro p; simp [zSmC]
  | succ d ih => intro p; rw [zSmC, ih (p + 1), zSmC, show p + 1 + d = p + (d + 1) by omega, Nat.add_assoc]
theorem zSmC_ft {kd wt fond hard blows : Nat → Nat} {l row : Nat} {dg : Nat → Nat} : ∀ np, (∀ p, p < np → dg p = zMN (row + p)) → zSmC dg (zMc kd wt fond hard blows l) np 0 = zFt kd wt fond hard l row np * blows l := by
  intro np
  induction np with
  | zero => intro _; rw [zSmC, zFt, Nat.zero_mul]
  | succ n ih =>
    intro h
    rw [zSmC_snoc, ih (fun p hp => h p (by omega)), zFt, Nat.add_mul, Nat.zero_add, h n (by omega)]
    rfl
theorem zMb_far {dg : Nat → Nat} {kd wt fond hard blows : Nat → Nat} {l np : Nat} (hnp : np ≤ 3) (hbl : ∀ i, blows i ≤ 9) : zMb dg (zMc kd wt fond hard blows l) np 0 0 0 ≤ 268435456 := by
  rw [zMb_val]
  split
  · have h := zSmC_le (dg := dg) (cost := zMc kd wt fond hard blows l) (fun p b => zMc_le (hbl l)) np 0
    omega
  · exact Nat.le_refl _
def zPs : Nat → List (Nat × Nat)
  | 0 => []
  | 1 => [(1, 6), (2, 12)]
  | 2 => [(2, 3), (3, 6), (5, 9), (6, 12), (7, 15)]
  | _ => [(7, 3), (11, 6), (15, 9), (19, 12), (21, 15)]
def zP0 : Nat → Nat | 0 => 0 | 1 => 0 | 2 => 1 | _ => 5
theorem zPs_f : ∀ np, np < 4 → (List.range (3 ^ np)).filter (fun k => zVd (zDg np k) np 0 0) = zP0 np :: (zPs np).map Prod.fst := by decide +kernel
theorem zPs_ok : ∀ np, np < 4 → ∀ q ∈ (zP0 np, 0) :: zPs np, ∀ p, p < np → zDg np q.1 p = zMN (q.2 + p) := by decide +kernel
theorem zPs_lt : ∀ np, np < 4 → ∀ q ∈ (zP0 np, 0) :: zPs np, q.1 < 100 := by decide +kernel
theorem zPair {F G : Nat → Nat} {bl : Nat} (hbl : 0 < bl) {S : Nat × Nat → Prop} : ∀ (ps : List (Nat × Nat)) (c r : Nat), S (c, r) → (∀ q ∈ ps, S q ∧ F q.1 = G q.2 * bl) → ∃ c' r', S (c', r') ∧ (ps.map Prod.fst).foldl (zStM F) (nI c, G r * bl) = (nI c', G r' * bl) ∧ (ps.map Prod.snd).foldl (zStC G) (r, G r) = (r', G r') := by
  intro ps
  induction ps with
  | nil => intro c r h _; exact ⟨c, r, h, rfl, rfl⟩
  | cons q ps ih =>
    intro c r h hq
    obtain ⟨h1, h2⟩ := hq q List.mem_cons_self
    rw [List.map_cons, List.map_cons, List.foldl_cons, List.foldl_cons]
    by_cases g : G q.2 < G r
    · have e1 : zStM F (nI c, G r * bl) q.1 = (nI q.1, G q.2 * bl) := by
        show (if F q.1 < G r * bl then (nI q.1, F q.1) else (nI c, G r * bl)) = _
        rw [h2, if_pos (Nat.mul_lt_mul_of_pos_right g hbl)]
      have e2 : zStC G (r, G r) q.2 = (q.2, G q.2) := if_pos g
      rw [e1, e2]
      exact ih q.1 q.2 h1 (fun x hx => hq x (List.mem_cons_of_mem _ hx))
    · have e1 : zStM F (nI c, G r * bl) q.1 = (nI c, G r * bl) := by
        show (if F q.1 < G r * bl then (nI q.1, F q.1) else (nI c, G r * bl)) = _
        rw [h2, if_neg (Nat.not_lt.mpr (Nat.mul_le_mul_right _ (Nat.not_lt.mp g)))]
      have e2 : zStC G (r, G r) q.2 = (r, G r) := if_neg g
      rw [e1, e2]
      exact ih c r h (fun x hx => hq x (List.mem_cons_of_mem _ hx))
theorem zStC_le {G : Nat → Nat} {s : Nat × Nat} {r : Nat} : (zStC G s r).2 ≤ G r := by
  unfold zStC
  split
  · exact Nat.le_refl _
  · omega
theorem zStC_same {G : Nat → Nat} {s : Nat × Nat} {r : Nat} (h : s.2 ≤ G r) : zStC G s r = s := if_neg (Nat.not_lt.mpr h)
theorem zBm_fold {kd wt fond hard : Nat → Nat} {l np : Nat} (hnp : np ≤ 3) : zBm kd wt fond hard l np 5 = ((zPs np).map Prod.snd).foldl (zStC (fun r => zFt kd wt fond hard l r np)) (0, zFt kd wt fond hard l 0 np) := by
  have e0 : zBm kd wt fond hard l np 5 = zStC (fun r => zFt kd wt fond hard l r np) (zStC (fun r => zFt kd wt fond hard l r np) (zStC (fun r => zFt kd wt fond hard l r np) (zStC (fun r => zFt kd wt fond hard l r np) (zStC (fun r => zFt kd wt fond hard l r np) (0, zFt kd wt fond hard l 0 np) 3) 6) 9) 12) 15 := rfl
  rw [e0]
  rcases (show np = 0 ∨ np = 1 ∨ np = 2 ∨ np = 3 by omega) with h | h | h | h
  · subst h
    rw [zStC_same (r := 3) (Nat.le_refl _), zStC_same (r := 6) (Nat.le_refl _), zStC_same (r := 9) (Nat.le_refl _), zStC_same (r := 12) (Nat.le_refl _), zStC_same (r := 15) (Nat.le_refl _)]
    rfl
  · subst h
    have g3 : zFt kd wt fond hard l 3 1 = zFt kd wt fond hard l 0 1 := rfl
    have g9 : zFt kd wt fond hard l 9 1 = zFt kd wt fond hard l 6 1 := rfl
    have g15 : zFt kd wt fond hard l 15 1 = zFt kd wt fond hard l 12 1 := rfl
    rw [zStC_same (r := 3) (Nat.le_of_eq g3.symm), zStC_same (r := 9) (Nat.le_trans zStC_le (Nat.le_of_eq g9.symm)), zStC_same (r := 15) (Nat.le_trans zStC_le (Nat.le_of_eq g15.symm))]
    rfl
  · subst h; rfl
  · subst h; rfl
theorem zMm_ok {kd wt fond hard blows : Nat → Nat} {l np : Nat} (hnp : np ≤ 3) (hbl : ∀ i, blows i ≤ 9) (hb0 : 0 < blows l) : ∃ bc : Nat, bc < 100 ∧ zMm (fun k => zMb (zDg np k) (zMc kd wt fond hard blows l) np 0 0 0) (3 ^ np) = (nI bc, zFt kd wt fond hard l (zRow kd wt fond hard l np) np * blows l) ∧ ∀ p, p < np → zDg np bc p = zMN (zRow kd wt fond hard l np + p) := by
  have hG : ∀ q, q ∈ (zP0 np, 0) :: zPs np → zMb (zDg np q.1) (zMc kd wt fond hard blows l) np 0 0 0 = zFt kd wt fond hard l q.2 np * blows l := by
    intro q hq
    have hv : zVd (zDg np q.1) np 0 0 = true := by
      have h1 : q.1 ∈ (List.range (3 ^ np)).filter (fun k => zVd (zDg np k) np 0 0) := by
        rw [zPs_f np (by omega)]
        show q.1 ∈ ((zP0 np, 0) :: zPs np).map Prod.fst
        exact List.mem_map.mpr ⟨q, hq, rfl⟩
      exact (List.mem_filter.mp h1).2
    rw [zMb_val, if_pos hv, Nat.zero_add]
    exact zSmC_ft np (zPs_ok np (by omega) q hq)
  have hV : ∀ k, zVd (zDg np k) np 0 0 = false → zMb (zDg np k) (zMc kd wt fond hard blows l) np 0 0 0 = 268435456 := by
    intro k hk
    rw [zMb_val, if_neg (by rw [hk]; decide)]
  have hS : ∀ q, q ∈ (zP0 np, 0) :: zPs np → q.1 < 100 ∧ ∀ p, p < np → zDg np q.1 p = zMN (q.2 + p) := fun q hq => ⟨zPs_lt np (by omega) q hq, zPs_ok np (by omega) q hq⟩
  have h0 : zMb (zDg np (zP0 np)) (zMc kd wt fond hard blows l) np 0 0 0 = zFt kd wt fond hard l 0 np * blows l := hG (zP0 np, 0) List.mem_cons_self
  have hft : zFt kd wt fond hard l 0 np * blows l ≤ 30 * 9 := Nat.mul_le_mul (Nat.le_trans (zFt_le np) (by omega)) (hbl l)
  have e0 : zStM (fun k => zMb (zDg np k) (zMc kd wt fond hard blows l) np 0 0 0) (-1, 268435456) (zP0 np) = (nI (zP0 np), zFt kd wt fond hard l 0 np * blows l) := by
    show (if zMb (zDg np (zP0 np)) (zMc kd wt fond hard blows l) np 0 0 0 < 268435456 then (nI (zP0 np), zMb (zDg np (zP0 np)) (zMc kd wt fond hard blows l) np 0 0 0) else _) = _
    rw [h0, if_pos (by omega)]
  obtain ⟨c', r', h1, h2, h3⟩ := zPair (F := fun k => zMb (zDg np k) (zMc kd wt fond hard blows l) np 0 0 0) (G := fun r => zFt kd wt fond hard l r np) hb0 (S := fun q => q.1 < 100 ∧ ∀ p, p < np → zDg np q.1 p = zMN (q.2 + p)) (zPs np) (zP0 np) 0 (hS _ List.mem_cons_self) (fun q hq => ⟨hS q (List.mem_cons_of_mem _ hq), hG q (List.mem_cons_of_mem _ hq)⟩)
  have hr : zRow kd wt fond hard l np = r' := by
    show (zBm kd wt fond hard l np 5).1 = r'
    rw [zBm_fold hnp]
    exact congrArg Prod.fst h3
  refine ⟨c', h1.1, ?_, ?_⟩
  · rw [zMm_fold, zSkipM (V := fun k => zVd (zDg np k) np 0 0) hV (fun k => zMb_far hnp hbl) _ _ (Nat.le_refl _), zPs_f np (by omega), List.foldl_cons, e0, hr]
    exact h2
  · rw [hr]; exact h1.2
theorem zMm_le {F : Nat → Nat} (hF : ∀ k, F k ≤ 268435456) : ∀ n, (zMm F n).2 ≤ 268435456 := by
  intro n
  induction n with
  | zero => exact Nat.le_refl _
  | succ n ih =>
    rw [zMm]
    split
    · exact hF n
    · exact ih
theorem z_wlt {w : Int32} (h : w = 0 ∨ w = 1 ∨ (¬ w < 10 ∧ w < nI 13)) (h2 : ¬ 2 ≤ w) : w < 10 := by
  have e2 : (2 : Int32).toInt = 2 := rfl
  have e10 : (10 : Int32).toInt = 10 := rfl
  rw [Int32.le_iff_toInt_le, e2] at h2
  rw [Int32.lt_iff_toInt_lt, e10]; omega
theorem z_wge {w : Int32} (h : w = 0 ∨ w = 1 ∨ (¬ w < 10 ∧ w < nI 13)) (h2 : 2 ≤ w) : ¬ w < 10 := by
  rcases h with rfl | rfl | h
  · exact absurd h2 (by decide)
  · exact absurd h2 (by decide)
  · exact h.1
theorem z_w01 {w : Int32} (h : ¬ w < 0 ∧ ¬ 1 < w) : w = 0 ∨ w = 1 := by
  obtain ⟨k, hk, rfl⟩ := z_natle (n := 1) h.1 h.2 (by omega)
  exact (by decide +kernel : ∀ k, k < 2 → nI k = 0 ∨ nI k = 1) k (by omega)
theorem z_w01' {w : Int32} (h : w = 0 ∨ w = 1) : ¬ w < 0 ∧ ¬ 1 < w := by
  rcases h with rfl | rfl <;> decide
theorem zi_X11_matchNow_X11 : ∀ w ∈ wsX110, w ∈ wsX11_matchNow := fun _ h => List.mem_cons_of_mem _ (List.mem_append_right _ (h))
abbrev rm_X11_matchNow : Room := { frames := 3, cells := 0, slots := 0, locals := 72 }
set_option maxHeartbeats 4000000 in
set_option maxRecDepth 100000 in
theorem c_X11_matchNow (l : Launch) (D : va_G) (cI cB cP : ClassId) (mo : Nat) (m_hard : Nat) (m_blows : Nat) (m_stripes : Nat) (m_kd : Nat) (m_wt : Nat) (m_boys : Nat) (m_learnt : Nat) (m_fond : Nat) (m_qp : Nat) (m_ql : Nat) (m_qr : Nat) (m_codes : Nat) (m_left : Nat) (m_row : Nat) (m_sv : Nat) (m_k_fond : Nat) (m_k_stripes : Nat) (m_k_learnt : Nat) (m_k_boys : Nat) (m_k_qp : Nat) (m_k_ql : Nat) (m_k_qr : Nat) (wI : Int32) (nM : Int32) (sS : Int32) (sF : Int32) (lM : Int32) (sN : Int64) (iK : Int32) (kS : Int32) (kP : Int32) (kH : Int32) (hh : Int64) (sch : Int32) (asks : Int32) (lessons : Nat) (limit : Nat) (np : Nat) (nh : Nat) (size : Nat) (hard : Nat → Nat) (blows : Nat → Nat) (kd : Nat → Nat) (wt : Nat → Nat) (fond : Nat → Nat) (le : Nat) (w : Int32) (hnp : np ≤ 3) (hkd : ∀ i, kd i < 5) (hwt : ∀ i, wt i ≤ 9) (hfo : ∀ i, fond i ≤ 9) (hha : ∀ i, hard i ≤ 9) (hbl : ∀ i, blows i ≤ 9) (hls : lessons ≤ 5) (hle_ : le < lessons) (hb0 : 0 < blows le) (hw : w = 0 ∨ w = 1 ∨ (¬ w < 10 ∧ w < nI 13))  : zPi l D cI cB cP yX11_matchNow wsX11_matchNow rm_X11_matchNow [.ref mo, .int (nI le), .int w] ([(mo, .inr (11, [.int sch, .int (nI lessons), .int (nI limit), .ref m_hard, .ref m_blows, .ref m_stripes, .int (nI np), .ref m_kd, .ref m_wt, .ref m_boys, .ref m_learnt, .ref m_fond, .int (nI nh), .ref m_qp, .ref m_ql, .ref m_qr, .int asks, .int (nI size), .ref m_codes, .int wI, .int nM, .int sS, .int sF, .ref m_left, .int lM, .ref m_row, .long sN, .ref m_sv, .int iK, .int kS, .int kP, .int kH, .ref m_k_fond, .ref m_k_stripes, .ref m_k_learnt, .ref m_k_boys, .ref m_k_qp, .ref m_k_ql, .ref m_k_qr, .long hh])), (m_hard, .inl (cI, 5, .inl (fun q_ => nI (hard q_)))), (m_blows, .inl (cI, 5, .inl (fun q_ => nI (blows q_)))), (m_kd, .inl (cI, 3, .inl (fun q_ => nI (kd q_)))), (m_wt, .inl (cI, 3, .inl (fun q_ => nI (wt q_)))), (m_fond, .inl (cI, 9, .inl (fun q_ => nI (fond q_))))]) (fun r => r = zMatch kd wt fond hard blows np lessons (nI le) w) := by
  refine zPi_of (cc := cX11_matchNow) (maxL := 8) (by decide) rfl (Nat.le_of_ble_eq_true rfl) ?_
  intro p e s m args below meth c ls Q hx hb hml hts hown hP hK hN hl hret
  have hown : s.vm.findClass RX11 = some m.cls := hown
  have hl : lv_has ls 8 [(0, .ref mo), (1, .int (nI le)), (2, .int w)] := hl
  refine lv_iconst (v := 1) hx hb dX11_matchNow_0 (by decide) ?_
  refine lv_istore_n (lv' := [(3, .int 1), (0, .ref mo), (1, .int (nI le)), (2, .int w)]) hx hb dX11_matchNow_1 rfl hl (by decide) rfl (fun ls hl => ?_)
  refine lv_iconst (v := 0) hx hb dX11_matchNow_2 (by decide) ?_
  refine lv_istore (lv' := [(4, .int 0), (3, .int 1), (0, .ref mo), (1, .int (nI le)), (2, .int w)]) hx hb dX11_matchNow_3 hl (by decide) rfl (fun ls hl => ?_)
  have loop_5 : ∀ (fu_5 : Nat) (cw i : Nat), (i ≤ np) → (cw = 3 ^ i) → np - i < fu_5 → ∀ (ls : Array Slot), lv_has ls 8 [(4, .int (nI i)), (3, .int (nI cw)), (0, .ref mo), (1, .int (nI le)), (2, .int w)] → W p l e rm_X11_matchNow s m args below meth c s.heap [] 0 0 Q (F0 m 5 ls []) := by
    intro fu_5
    induction fu_5 with
    | zero => intro cw i hi hcw hn_5; exact absurd hn_5 (by omega)
    | succ fu_5 ih_5 =>
      intro cw i hi hcw hn_5 ls hl
      refine lv_iload hx hb dX11_matchNow_5 (lv_at hl 0 rfl) ?_
      refine lv_aload_n hx hb dX11_matchNow_7 rfl (lv_at hl 2 rfl) ?_
      refine va_get (D := D) (ci := 11) (v := .int (nI np)) (C := RX11) (T := TX11) (N := 40) hx hb hts zi_X11_matchNow_X11 hown hK hP 0 rfl rfl 6 (by decide) (hts (.fieldLink RX11 116 "BeatenInsteadModel" "princes" "I") (List.mem_of_getElem? (i := 1) rfl)) (fun _ h9 => h9) rfl dX11_matchNow_8 ?_
      refine lv_icmp_ge (tgt := 24) hx hb dX11_matchNow_11 (by decide) (fun c_1 => ?_) (fun c_1 => ?_)
      · skip
        have c_1 : np ≤ i := (nI_leI (a := np) (b := i) (by omega) (by omega)).mp c_1
        have hc27 : cw ≤ 27 := by rw [hcw, show i = np by omega]; exact Nat.pow_le_pow_right (n := 3) (by omega) hnp
        refine lv_iconst (v := (-1)) hx hb dX11_matchNow_24 (by decide) ?_
        refine lv_istore (lv' := [(4, .int (-1)), (3, .int (nI cw)), (0, .ref mo), (1, .int (nI le)), (2, .int w)]) hx hb dX11_matchNow_25 hl (by decide) rfl (fun ls hl => ?_)
        refine lv_ldc (v := 268435456) hx hb hown (hts (.constant RX11 215 (268435456)) (List.mem_of_getElem? (i := 2) rfl)) dX11_matchNow_27 ?_
        refine lv_istore (lv' := [(5, .int 268435456), (4, .int (-1)), (3, .int (nI cw)), (0, .ref mo), (1, .int (nI le)), (2, .int w)]) hx hb dX11_matchNow_29 hl (by decide) rfl (fun ls hl => ?_)
        refine lv_iconst (v := 0) hx hb dX11_matchNow_31 (by decide) ?_
        refine lv_istore (lv' := [(6, .int 0), (5, .int 268435456), (4, .int (-1)), (3, .int (nI cw)), (0, .ref mo), (1, .int (nI le)), (2, .int w)]) hx hb dX11_matchNow_32 hl (by decide) rfl (fun ls hl => ?_)
        have loop_34 : ∀ (fu_34 : Nat) (bs : Int32) (lt k : Nat), (k ≤ cw) → (lt ≤ 268435456) → ((bs, lt) = zMm (fun k => zMb (zDg np k) (zMc kd wt fond hard blows le) np 0 0 0) k) → cw - k < fu_34 → ∀ (ls : Array Slot), lv_has ls 8 [(6, .int (nI k)), (5, .int (nI lt)), (4, .int bs), (3, .int (nI cw)), (0, .ref mo), (1, .int (nI le)), (2, .int w)] → W p l e rm_X11_matchNow s m args below meth c s.heap [] 0 0 Q (F0 m 34 ls []) := by
          intro fu_34
          induction fu_34 with
          | zero => intro bs lt k hk_ hlt_ hE hn_34; exact absurd hn_34 (by omega)
          | succ fu_34 ih_34 =>
            intro bs lt k hk_ hlt_ hE hn_34 ls hl
            have hmb : zMb (zDg np k) (zMc kd wt fond hard blows le) np 0 0 0 ≤ 268435456 := zMb_far hnp hbl
            refine lv_iload hx hb dX11_matchNow_34 (lv_at hl 0 rfl) ?_
            refine lv_iload_n hx hb dX11_matchNow_36 rfl (lv_at hl 3 rfl) ?_
            refine lv_icmp_ge (tgt := 87) hx hb dX11_matchNow_37 (by decide) (fun c_2 => ?_) (fun c_2 => ?_)
            · skip
              have c_2 : cw ≤ k := (nI_leI (a := cw) (b := k) (by omega) (by omega)).mp c_2
              obtain ⟨bc, hbc, hbe, hdg⟩ := zMm_ok (kd := kd) (wt := wt) (fond := fond) (hard := hard) hnp hbl hb0
              have hE2 : (bs, lt) = (nI bc, zFt kd wt fond hard le (zRow kd wt fond hard le np) np * blows le) := by rw [hE, ← hbe, show k = 3 ^ np from (by rw [show k = cw by omega, hcw, show i = np by omega])]
              obtain ⟨rfl, rfl⟩ := Prod.mk.inj hE2
              have hrw : zRow kd wt fond hard le np ≤ 15 := (zBm_lt 5).1
              have hfl : zFt kd wt fond hard le (zRow kd wt fond hard le np) np ≤ 10 * np := zFt_le np
              have hmm : zFt kd wt fond hard le (zRow kd wt fond hard le np) np * blows le ≤ 30 * 9 := Nat.mul_le_mul (by omega) (hbl le)
              refine lv_iload_n hx hb dX11_matchNow_87 rfl (lv_at hl 6 rfl) ?_
              refine lv_iconst (v := 2) hx hb dX11_matchNow_88 (by decide) ?_
              refine lv_icmp_ge (tgt := 104) hx hb dX11_matchNow_89 (by decide) (fun c_3 => ?_) (fun c_3 => ?_)
              · skip
                obtain ⟨pw, hpw, rfl⟩ := z_w13 hw (z_wge hw c_3)
                refine lv_aload_n hx hb dX11_matchNow_104 rfl (lv_at hl 4 rfl) ?_
                refine lv_iload_n hx hb dX11_matchNow_105 rfl (lv_at hl 6 rfl) ?_
                refine lv_bipush (v := (10)) hx hb dX11_matchNow_106 (by decide) ?_
                refine lv_isub hx hb dX11_matchNow_108 ?_
                refine z_top (show ((nI (10 + pw)) - 10) = nI pw from by have := pk_sub (a := 10 + pw) (b := 10) (by omega); rw [show (10 : Int32) = nI 10 from rfl, this]; congr 1; omega) ?_
                refine vp_callSi (z_runV (b := mo) (As := [.int (nI pw)]) (rest := []) hx hb hml hown hts hK hN hl.1 (c_X11_isPrince l D cI cB cP mo m_hard m_blows m_stripes m_kd m_wt m_boys m_learnt m_fond m_qp m_ql m_qr m_codes m_left m_row m_sv m_k_fond m_k_stripes m_k_learnt m_k_boys m_k_qp m_k_ql m_k_qr wI nM sS sF lM sN iK kS kP kH hh sch asks lessons limit np nh size (nI pw) (by first | assumption | omega)) gX11_matchNow_X11_isPrince rfl zd_X11_isPrince rfl (Nat.le_of_ble_eq_true rfl) (Nat.le_of_ble_eq_true rfl) (va_P.sub (ws' := [(mo, .inr (11, [.int sch, .int (nI lessons), .int (nI limit), .ref m_hard, .ref m_blows, .ref m_stripes, .int (nI np), .ref m_kd, .ref m_wt, .ref m_boys, .ref m_learnt, .ref m_fond, .int (nI nh), .ref m_qp, .ref m_ql, .ref m_qr, .int asks, .int (nI size), .ref m_codes, .int wI, .int nM, .int sS, .int sF, .ref m_left, .int lM, .ref m_row, .long sN, .ref m_sv, .int iK, .int kS, .int kP, .int kH, .ref m_k_fond, .ref m_k_stripes, .ref m_k_learnt, .ref m_k_boys, .ref m_k_qp, .ref m_k_ql, .ref m_k_qr, .long hh]))]) hP [0] rfl) (va_recv hK hP (ci := 11) (q0 := 0) rfl rfl) rfl (Nat.le_of_ble_eq_true rfl) dX11_matchNow_109 ⟨Nat.zero_le _, Nat.zero_le _⟩) (fun r hr => ?_)
                rcases hr with ⟨rfl, c_4⟩ | ⟨rfl, c_4⟩
                · skip
                  refine lv_if_eq (tgt := 128) hx hb dX11_matchNow_112 (by decide) (fun c => absurd c (by decide)) (fun _ => ?_)
                  refine lv_aload_n hx hb dX11_matchNow_115 rfl (lv_at hl 4 rfl) ?_
                  refine lv_iload hx hb dX11_matchNow_116 (lv_at hl 2 rfl) ?_
                  refine lv_iload_n hx hb dX11_matchNow_118 rfl (lv_at hl 6 rfl) ?_
                  refine lv_bipush (v := (10)) hx hb dX11_matchNow_119 (by decide) ?_
                  refine lv_isub hx hb dX11_matchNow_121 ?_
                  refine z_top (show ((nI (10 + pw)) - 10) = nI pw from by have := pk_sub (a := 10 + pw) (b := 10) (by omega); rw [show (10 : Int32) = nI 10 from rfl, this]; congr 1; omega) ?_
                  refine vp_callSi (z_runV (b := mo) (As := [.int (nI bc), .int (nI pw)]) (rest := []) hx hb hml hown hts hK hN hl.1 (c_X11_boyBy l D cI cB cP mo m_hard m_blows m_stripes m_kd m_wt m_boys m_learnt m_fond m_qp m_ql m_qr m_codes m_left m_row m_sv m_k_fond m_k_stripes m_k_learnt m_k_boys m_k_qp m_k_ql m_k_qr wI nM sS sF lM sN iK kS kP kH hh sch asks lessons limit np nh size bc pw (by first | assumption | omega) (hbc) ((nI_ltI (by omega) (by omega)).mp c_4.2)) gX11_matchNow_X11_boyBy rfl zd_X11_boyBy rfl (Nat.le_of_ble_eq_true rfl) (Nat.le_of_ble_eq_true rfl) (va_P.sub (ws' := [(mo, .inr (11, [.int sch, .int (nI lessons), .int (nI limit), .ref m_hard, .ref m_blows, .ref m_stripes, .int (nI np), .ref m_kd, .ref m_wt, .ref m_boys, .ref m_learnt, .ref m_fond, .int (nI nh), .ref m_qp, .ref m_ql, .ref m_qr, .int asks, .int (nI size), .ref m_codes, .int wI, .int nM, .int sS, .int sF, .ref m_left, .int lM, .ref m_row, .long sN, .ref m_sv, .int iK, .int kS, .int kP, .int kH, .ref m_k_fond, .ref m_k_stripes, .ref m_k_learnt, .ref m_k_boys, .ref m_k_qp, .ref m_k_ql, .ref m_k_qr, .long hh]))]) hP [0] rfl) (va_recv hK hP (ci := 11) (q0 := 0) rfl rfl) rfl (Nat.le_of_ble_eq_true rfl) dX11_matchNow_122 ⟨Nat.zero_le _, Nat.zero_le _⟩) (fun r hr => ?_)
                  subst hr
                  refine lv_goto (tgt := 129) hx hb dX11_matchNow_125 (by decide) ?_
                  exact hret _ _ _ dX11_matchNow_129 (by rw [zMatch_hi (z_l5 hle_ hls) hpw, nI_clamp (by omega), if_pos ((nI_ltI (by omega) (by omega)).mp c_4.2), hdg pw ((nI_ltI (by omega) (by omega)).mp c_4.2)])
                · skip
                  refine lv_if_eq (tgt := 128) hx hb dX11_matchNow_112 (by decide) (fun _ => ?_) (fun c => absurd c (by decide))
                  refine lv_iconst (v := (-1)) hx hb dX11_matchNow_128 (by decide) ?_
                  exact hret _ _ _ dX11_matchNow_129 (by rw [zMatch_hi (z_l5 hle_ hls) hpw, if_neg (fun h => c_4 ⟨nI_pos (by omega), nI_lt h (by omega)⟩)])
              · skip
                refine lv_iload hx hb dX11_matchNow_92 (lv_at hl 1 rfl) ?_
                refine lv_i2l (v := lN (zFt kd wt fond hard le (zRow kd wt fond hard le np) np * blows le)) hx hb dX11_matchNow_94 (nI_l (by omega)) ?_
                refine lv_ldc2 (v := (10)) hx hb hown (hts (.constantLong RX11 185 (10)) (List.mem_of_getElem? (i := 3) rfl)) dX11_matchNow_95 ?_
                refine lv_iload_n hx hb dX11_matchNow_98 rfl (lv_at hl 6 rfl) ?_
                refine vp_callSl (z_runS (As := [.long (lN (zFt kd wt fond hard le (zRow kd wt fond hard le np) np * blows le)), .long 10, .int w]) (rest := []) hx hb hml hown hts hK hN hl.1 (c_X11_lowest l D cI cB cP (zFt kd wt fond hard le (zRow kd wt fond hard le np) np * blows le) 10 w (by omega) (by omega) (by omega)) gX11_matchNow_X11_lowest rfl zd_X11_lowest rfl (Nat.le_of_ble_eq_true rfl) (Nat.le_of_ble_eq_true rfl) z_p0 rfl (Nat.le_of_ble_eq_true rfl) dX11_matchNow_99 ⟨Nat.zero_le _, Nat.zero_le _⟩) (fun r hr => ?_)
                subst hr
                refine lv_l2i (v := nI ((if w = 0 then (zFt kd wt fond hard le (zRow kd wt fond hard le np) np * blows le) else 10) / Nat.gcd (zFt kd wt fond hard le (zRow kd wt fond hard le np) np * blows le) 10)) hx hb dX11_matchNow_102 (lN_i _) ?_
                exact hret _ _ _ dX11_matchNow_103 (by rw [zMatch_lo (z_l5 hle_ hls) hw (z_wlt hw c_3), nI_clamp (by omega)])
            · skip
              have c_2 : ¬ (cw ≤ k) := (not_congr (nI_leI (a := cw) (b := k) (by omega) (by omega))).mp c_2
              refine lv_aload_n hx hb dX11_matchNow_40 rfl (lv_at hl 4 rfl) ?_
              refine lv_iload_n hx hb dX11_matchNow_41 rfl (lv_at hl 5 rfl) ?_
              refine lv_iload hx hb dX11_matchNow_42 (lv_at hl 0 rfl) ?_
              refine vp_callSi (z_runV (b := mo) (As := [.int (nI le), .int (nI k)]) (rest := []) hx hb hml hown hts hK hN hl.1 (c_X11_matchBy l D cI cB cP mo m_hard m_blows m_stripes m_kd m_wt m_boys m_learnt m_fond m_qp m_ql m_qr m_codes m_left m_row m_sv m_k_fond m_k_stripes m_k_learnt m_k_boys m_k_qp m_k_ql m_k_qr wI nM sS sF lM sN iK kS kP kH hh sch asks lessons limit np nh size hard blows kd wt fond le k (by first | assumption | omega) (by first | assumption | omega) (by first | assumption | omega) (by first | assumption | omega) (by first | assumption | omega) (hbl) (by omega) (by omega)) gX11_matchNow_X11_matchBy rfl zd_X11_matchBy rfl (Nat.le_of_ble_eq_true rfl) (Nat.le_of_ble_eq_true rfl) (va_P.sub (ws' := [(mo, .inr (11, [.int sch, .int (nI lessons), .int (nI limit), .ref m_hard, .ref m_blows, .ref m_stripes, .int (nI np), .ref m_kd, .ref m_wt, .ref m_boys, .ref m_learnt, .ref m_fond, .int (nI nh), .ref m_qp, .ref m_ql, .ref m_qr, .int asks, .int (nI size), .ref m_codes, .int wI, .int nM, .int sS, .int sF, .ref m_left, .int lM, .ref m_row, .long sN, .ref m_sv, .int iK, .int kS, .int kP, .int kH, .ref m_k_fond, .ref m_k_stripes, .ref m_k_learnt, .ref m_k_boys, .ref m_k_qp, .ref m_k_ql, .ref m_k_qr, .long hh])), (m_hard, .inl (cI, 5, .inl (fun q_ => nI (hard q_)))), (m_blows, .inl (cI, 5, .inl (fun q_ => nI (blows q_)))), (m_kd, .inl (cI, 3, .inl (fun q_ => nI (kd q_)))), (m_wt, .inl (cI, 3, .inl (fun q_ => nI (wt q_)))), (m_fond, .inl (cI, 9, .inl (fun q_ => nI (fond q_))))]) hP [0, 1, 2, 3, 4, 5] rfl) (va_recv hK hP (ci := 11) (q0 := 0) rfl rfl) rfl (Nat.le_of_ble_eq_true rfl) dX11_matchNow_44 ⟨Nat.zero_le _, Nat.zero_le _⟩) (fun r hr => ?_)
              subst hr
              refine lv_istore (lv' := [(7, .int (nI (zMb (zDg np k) (zMc kd wt fond hard blows le) np 0 0 0))), (6, .int (nI k)), (5, .int (nI lt)), (4, .int bs), (3, .int (nI cw)), (0, .ref mo), (1, .int (nI le)), (2, .int w)]) hx hb dX11_matchNow_47 hl (by decide) rfl (fun ls hl => ?_)
              refine lv_iload hx hb dX11_matchNow_49 (lv_at hl 0 rfl) ?_
              refine lv_iload hx hb dX11_matchNow_51 (lv_at hl 2 rfl) ?_
              refine lv_icmp_ge (tgt := 61) hx hb dX11_matchNow_53 (by decide) (fun c_3 => ?_) (fun c_3 => ?_)
              · skip
                have c_3 : lt ≤ zMb (zDg np k) (zMc kd wt fond hard blows le) np 0 0 0 := (nI_leI (a := lt) (b := zMb (zDg np k) (zMc kd wt fond hard blows le) np 0 0 0) (by omega) (by omega)).mp c_3
                refine lv_iload hx hb dX11_matchNow_61 (lv_at hl 3 rfl) ?_
                refine lv_istore (lv' := [(4, .int bs), (7, .int (nI (zMb (zDg np k) (zMc kd wt fond hard blows le) np 0 0 0))), (6, .int (nI k)), (5, .int (nI lt)), (3, .int (nI cw)), (0, .ref mo), (1, .int (nI le)), (2, .int w)]) hx hb dX11_matchNow_63 hl (by decide) rfl (fun ls hl => ?_)
                refine lv_iload hx hb dX11_matchNow_65 (lv_at hl 1 rfl) ?_
                refine lv_iload hx hb dX11_matchNow_67 (lv_at hl 3 rfl) ?_
                refine lv_icmp_ge (tgt := 77) hx hb dX11_matchNow_69 (by decide) (fun c_4 => ?_) (fun c_4 => ?_)
                · skip
                  have c_4 : lt ≤ zMb (zDg np k) (zMc kd wt fond hard blows le) np 0 0 0 := (nI_leI (a := lt) (b := zMb (zDg np k) (zMc kd wt fond hard blows le) np 0 0 0) (by omega) (by omega)).mp c_4
                  refine lv_iload hx hb dX11_matchNow_77 (lv_at hl 3 rfl) ?_
                  refine lv_istore (lv' := [(5, .int (nI lt)), (4, .int bs), (7, .int (nI (zMb (zDg np k) (zMc kd wt fond hard blows le) np 0 0 0))), (6, .int (nI k)), (3, .int (nI cw)), (0, .ref mo), (1, .int (nI le)), (2, .int w)]) hx hb dX11_matchNow_79 hl (by decide) rfl (fun ls hl => ?_)
                  refine lv_iinc (v := nI (k + 1)) (lv' := [(6, .int (nI (k + 1))), (5, .int (nI lt)), (4, .int bs), (7, .int (nI (zMb (zDg np k) (zMc kd wt fond hard blows le) np 0 0 0))), (3, .int (nI cw)), (0, .ref mo), (1, .int (nI le)), (2, .int w)]) hx hb dX11_matchNow_81 hl (k := 3) rfl (nI_add (k) 1) (by decide) rfl (fun ls hl => ?_)
                  refine lv_goto (tgt := 34) hx hb dX11_matchNow_84 (by decide) ?_
                  exact ih_34 bs lt (k + 1) (by omega) (by omega) (by rw [hE, zMm, if_neg (by have h9 := congrArg Prod.snd hE; show ¬ _ < _; rw [← h9]; show ¬ _ < lt; omega)]) (by omega) ls (lv_sub hl [0, 1, 2, 4, 5, 6, 7] rfl)
                · skip
                  have c_4 : ¬ (lt ≤ zMb (zDg np k) (zMc kd wt fond hard blows le) np 0 0 0) := (not_congr (nI_leI (a := lt) (b := zMb (zDg np k) (zMc kd wt fond hard blows le) np 0 0 0) (by omega) (by omega))).mp c_4
                  refine lv_iload hx hb dX11_matchNow_72 (lv_at hl 1 rfl) ?_
                  refine lv_goto (tgt := 79) hx hb dX11_matchNow_74 (by decide) ?_
                  refine lv_istore (lv' := [(5, .int (nI (zMb (zDg np k) (zMc kd wt fond hard blows le) np 0 0 0))), (4, .int bs), (7, .int (nI (zMb (zDg np k) (zMc kd wt fond hard blows le) np 0 0 0))), (6, .int (nI k)), (3, .int (nI cw)), (0, .ref mo), (1, .int (nI le)), (2, .int w)]) hx hb dX11_matchNow_79 hl (by decide) rfl (fun ls hl => ?_)
                  refine lv_iinc (v := nI (k + 1)) (lv' := [(6, .int (nI (k + 1))), (5, .int (nI (zMb (zDg np k) (zMc kd wt fond hard blows le) np 0 0 0))), (4, .int bs), (7, .int (nI (zMb (zDg np k) (zMc kd wt fond hard blows le) np 0 0 0))), (3, .int (nI cw)), (0, .ref mo), (1, .int (nI le)), (2, .int w)]) hx hb dX11_matchNow_81 hl (k := 3) rfl (nI_add (k) 1) (by decide) rfl (fun ls hl => ?_)
                  refine lv_goto (tgt := 34) hx hb dX11_matchNow_84 (by decide) ?_
                  exact ih_34 bs (zMb (zDg np k) (zMc kd wt fond hard blows le) np 0 0 0) (k + 1) (by exfalso; omega) (by exfalso; omega) (by exfalso; omega) (by omega) ls (lv_sub hl [0, 1, 2, 4, 5, 6, 7] rfl)
              · skip
                have c_3 : ¬ (lt ≤ zMb (zDg np k) (zMc kd wt fond hard blows le) np 0 0 0) := (not_congr (nI_leI (a := lt) (b := zMb (zDg np k) (zMc kd wt fond hard blows le) np 0 0 0) (by omega) (by omega))).mp c_3
                refine lv_iload hx hb dX11_matchNow_56 (lv_at hl 1 rfl) ?_
                refine lv_goto (tgt := 63) hx hb dX11_matchNow_58 (by decide) ?_
                refine lv_istore (lv' := [(4, .int (nI k)), (7, .int (nI (zMb (zDg np k) (zMc kd wt fond hard blows le) np 0 0 0))), (6, .int (nI k)), (5, .int (nI lt)), (3, .int (nI cw)), (0, .ref mo), (1, .int (nI le)), (2, .int w)]) hx hb dX11_matchNow_63 hl (by decide) rfl (fun ls hl => ?_)
                refine lv_iload hx hb dX11_matchNow_65 (lv_at hl 1 rfl) ?_
                refine lv_iload hx hb dX11_matchNow_67 (lv_at hl 3 rfl) ?_
                refine lv_icmp_ge (tgt := 77) hx hb dX11_matchNow_69 (by decide) (fun c_4 => ?_) (fun c_4 => ?_)
                · skip
                  have c_4 : lt ≤ zMb (zDg np k) (zMc kd wt fond hard blows le) np 0 0 0 := (nI_leI (a := lt) (b := zMb (zDg np k) (zMc kd wt fond hard blows le) np 0 0 0) (by omega) (by omega)).mp c_4
                  refine lv_iload hx hb dX11_matchNow_77 (lv_at hl 3 rfl) ?_
                  refine lv_istore (lv' := [(5, .int (nI lt)), (4, .int (nI k)), (7, .int (nI (zMb (zDg np k) (zMc kd wt fond hard blows le) np 0 0 0))), (6, .int (nI k)), (3, .int (nI cw)), (0, .ref mo), (1, .int (nI le)), (2, .int w)]) hx hb dX11_matchNow_79 hl (by decide) rfl (fun ls hl => ?_)
                  refine lv_iinc (v := nI (k + 1)) (lv' := [(6, .int (nI (k + 1))), (5, .int (nI lt)), (4, .int (nI k)), (7, .int (nI (zMb (zDg np k) (zMc kd wt fond hard blows le) np 0 0 0))), (3, .int (nI cw)), (0, .ref mo), (1, .int (nI le)), (2, .int w)]) hx hb dX11_matchNow_81 hl (k := 3) rfl (nI_add (k) 1) (by decide) rfl (fun ls hl => ?_)
                  refine lv_goto (tgt := 34) hx hb dX11_matchNow_84 (by decide) ?_
                  exact ih_34 (nI k) lt (k + 1) (by exfalso; omega) (by exfalso; omega) (by exfalso; omega) (by omega) ls (lv_sub hl [0, 1, 2, 4, 5, 6, 7] rfl)
                · skip
                  have c_4 : ¬ (lt ≤ zMb (zDg np k) (zMc kd wt fond hard blows le) np 0 0 0) := (not_congr (nI_leI (a := lt) (b := zMb (zDg np k) (zMc kd wt fond hard blows le) np 0 0 0) (by omega) (by omega))).mp c_4
                  refine lv_iload hx hb dX11_matchNow_72 (lv_at hl 1 rfl) ?_
                  refine lv_goto (tgt := 79) hx hb dX11_matchNow_74 (by decide) ?_
                  refine lv_istore (lv' := [(5, .int (nI (zMb (zDg np k) (zMc kd wt fond hard blows le) np 0 0 0))), (4, .int (nI k)), (7, .int (nI (zMb (zDg np k) (zMc kd wt fond hard blows le) np 0 0 0))), (6, .int (nI k)), (3, .int (nI cw)), (0, .ref mo), (1, .int (nI le)), (2, .int w)]) hx hb dX11_matchNow_79 hl (by decide) rfl (fun ls hl => ?_)
                  refine lv_iinc (v := nI (k + 1)) (lv' := [(6, .int (nI (k + 1))), (5, .int (nI (zMb (zDg np k) (zMc kd wt fond hard blows le) np 0 0 0))), (4, .int (nI k)), (7, .int (nI (zMb (zDg np k) (zMc kd wt fond hard blows le) np 0 0 0))), (3, .int (nI cw)), (0, .ref mo), (1, .int (nI le)), (2, .int w)]) hx hb dX11_matchNow_81 hl (k := 3) rfl (nI_add (k) 1) (by decide) rfl (fun ls hl => ?_)
                  refine lv_goto (tgt := 34) hx hb dX11_matchNow_84 (by decide) ?_
                  exact ih_34 (nI k) (zMb (zDg np k) (zMc kd wt fond hard blows le) np 0 0 0) (k + 1) (by omega) (by omega) (by rw [zMm, ← hE]; exact (if_pos (by show _ < lt; omega)).symm) (by omega) ls (lv_sub hl [0, 1, 2, 4, 5, 6, 7] rfl)
        exact loop_34 _ (-1) 268435456 0 (Nat.zero_le _) (Nat.le_refl _) (rfl) (Nat.lt_succ_self _) ls hl
      · skip
        have c_1 : ¬ (np ≤ i) := (not_congr (nI_leI (a := np) (b := i) (by omega) (by omega))).mp c_1
        refine lv_iload_n hx hb dX11_matchNow_14 rfl (lv_at hl 1 rfl) ?_
        refine lv_iconst (v := 3) hx hb dX11_matchNow_15 (by decide) ?_
        refine lv_imul hx hb dX11_matchNow_16 ?_
        refine z_top (show ((nI cw) * 3) = nI (cw * 3) from pk_mul cw 3) ?_
        refine lv_istore_n (lv' := [(3, .int (nI (cw * 3))), (4, .int (nI i)), (0, .ref mo), (1, .int (nI le)), (2, .int w)]) hx hb dX11_matchNow_17 rfl hl (by decide) rfl (fun ls hl => ?_)
        refine lv_iinc (v := nI (i + 1)) (lv' := [(4, .int (nI (i + 1))), (3, .int (nI (cw * 3))), (0, .ref mo), (1, .int (nI le)), (2, .int w)]) hx hb dX11_matchNow_18 hl (k := 1) rfl (nI_add (i) 1) (by decide) rfl (fun ls hl => ?_)
        refine lv_goto (tgt := 5) hx hb dX11_matchNow_21 (by decide) ?_
        exact ih_5 (cw * 3) (i + 1) (by omega) (by rw [hcw, Nat.pow_succ]) (by omega) ls hl
  exact loop_5 _ 1 0 (Nat.zero_le _) (rfl) (Nat.lt_succ_self _) ls hl

abbrev rm_X11_match : Room := { frames := 4, cells := 0, slots := 0, locals := 99 }
set_option maxHeartbeats 4000000 in
set_option maxRecDepth 100000 in
theorem c_X11_match (l : Launch) (D : va_G) (cI cB cP : ClassId) (mo : Nat) (m_hard : Nat) (m_blows : Nat) (m_stripes : Nat) (m_kd : Nat) (m_wt : Nat) (m_boys : Nat) (m_learnt : Nat) (m_fond : Nat) (m_qp : Nat) (m_ql : Nat) (m_qr : Nat) (m_codes : Nat) (m_left : Nat) (m_row : Nat) (m_sv : Nat) (m_k_fond : Nat) (m_k_stripes : Nat) (m_k_learnt : Nat) (m_k_boys : Nat) (m_k_qp : Nat) (m_k_ql : Nat) (m_k_qr : Nat) (wI : Int32) (nM : Int32) (sS : Int32) (sF : Int32) (lM : Int32) (sN : Int64) (iK : Int32) (kS : Int32) (kP : Int32) (kH : Int32) (hh : Int64) (sch : Int32) (asks : Int32) (lessons : Nat) (limit : Nat) (np : Nat) (nh : Nat) (size : Nat) (hard : Nat → Nat) (blows : Nat → Nat) (kd : Nat → Nat) (wt : Nat → Nat) (fond : Nat → Nat) (l_ : Int32) (w : Int32) (hnp : np ≤ 3) (hkd : ∀ i, kd i < 5) (hwt : ∀ i, wt i ≤ 9) (hfo : ∀ i, fond i ≤ 9) (hha : ∀ i, hard i ≤ 9) (hbl : ∀ i, blows i ≤ 9) (hls : lessons ≤ 5) (hb0 : ∀ i, i < lessons → 0 < blows i)  : zPi l D cI cB cP yX11_match wsX11_match rm_X11_match [.ref mo, .int l_, .int w] ([(mo, .inr (11, [.int sch, .int (nI lessons), .int (nI limit), .ref m_hard, .ref m_blows, .ref m_stripes, .int (nI np), .ref m_kd, .ref m_wt, .ref m_boys, .ref m_learnt, .ref m_fond, .int (nI nh), .ref m_qp, .ref m_ql, .ref m_qr, .int asks, .int (nI size), .ref m_codes, .int wI, .int nM, .int sS, .int sF, .ref m_left, .int lM, .ref m_row, .long sN, .ref m_sv, .int iK, .int kS, .int kP, .int kH, .ref m_k_fond, .ref m_k_stripes, .ref m_k_learnt, .ref m_k_boys, .ref m_k_qp, .ref m_k_ql, .ref m_k_qr, .long hh])), (m_hard, .inl (cI, 5, .inl (fun q_ => nI (hard q_)))), (m_blows, .inl (cI, 5, .inl (fun q_ => nI (blows q_)))), (m_kd, .inl (cI, 3, .inl (fun q_ => nI (kd q_)))), (m_wt, .inl (cI, 3, .inl (fun q_ => nI (wt q_)))), (m_fond, .inl (cI, 9, .inl (fun q_ => nI (fond q_))))]) (fun r => r = zMatch kd wt fond hard blows np lessons l_ w) := by
  refine zPi_of (cc := cX11_match) (maxL := 3) (by decide) rfl (Nat.le_of_ble_eq_true rfl) ?_
  intro p e s m args below meth c ls Q hx hb hml hts hown hP hK hN hl hret
  have hown : s.vm.findClass RX11 = some m.cls := hown
  have hl : lv_has ls 3 [(0, .ref mo), (1, .int l_), (2, .int w)] := hl
  refine lv_aload_n hx hb dX11_match_0 rfl (lv_at hl 0 rfl) ?_
  refine lv_iload_n hx hb dX11_match_1 rfl (lv_at hl 1 rfl) ?_
  refine vp_callSi (z_runV (b := mo) (As := [.int l_]) (rest := []) hx hb hml hown hts hK hN hl.1 (c_X11_isLesson l D cI cB cP mo m_hard m_blows m_stripes m_kd m_wt m_boys m_learnt m_fond m_qp m_ql m_qr m_codes m_left m_row m_sv m_k_fond m_k_stripes m_k_learnt m_k_boys m_k_qp m_k_ql m_k_qr wI nM sS sF lM sN iK kS kP kH hh sch asks lessons limit np nh size l_ (by first | assumption | omega)) gX11_match_X11_isLesson rfl zd_X11_isLesson rfl (Nat.le_of_ble_eq_true rfl) (Nat.le_of_ble_eq_true rfl) (va_P.sub (ws' := [(mo, .inr (11, [.int sch, .int (nI lessons), .int (nI limit), .ref m_hard, .ref m_blows, .ref m_stripes, .int (nI np), .ref m_kd, .ref m_wt, .ref m_boys, .ref m_learnt, .ref m_fond, .int (nI nh), .ref m_qp, .ref m_ql, .ref m_qr, .int asks, .int (nI size), .ref m_codes, .int wI, .int nM, .int sS, .int sF, .ref m_left, .int lM, .ref m_row, .long sN, .ref m_sv, .int iK, .int kS, .int kP, .int kH, .ref m_k_fond, .ref m_k_stripes, .ref m_k_learnt, .ref m_k_boys, .ref m_k_qp, .ref m_k_ql, .ref m_k_qr, .long hh]))]) hP [0] rfl) (va_recv hK hP (ci := 11) (q0 := 0) rfl rfl) rfl (Nat.le_of_ble_eq_true rfl) dX11_match_2 ⟨Nat.zero_le _, Nat.zero_le _⟩) (fun r hr => ?_)
  rcases hr with ⟨rfl, c_1⟩ | ⟨rfl, c_1⟩
  · skip
    refine lv_if_ne (tgt := 11) hx hb dX11_match_5 (by decide) (fun _ => ?_) (fun c => absurd c (by decide))
    refine lv_iload_n hx hb dX11_match_11 rfl (lv_at hl 2 rfl) ?_
    refine lv_iconst (v := 0) hx hb dX11_match_12 (by decide) ?_
    refine lv_iconst (v := 1) hx hb dX11_match_13 (by decide) ?_
    refine vp_callSi (z_runS (As := [.int w, .int 0, .int 1]) (rest := []) hx hb hml hown hts hK hN hl.1 (c_X11_within l D cI cB cP w 0 1) gX11_match_X11_within rfl zd_X11_within rfl (Nat.le_of_ble_eq_true rfl) (Nat.le_of_ble_eq_true rfl) z_p0 rfl (Nat.le_of_ble_eq_true rfl) dX11_match_14 ⟨Nat.zero_le _, Nat.zero_le _⟩) (fun r hr => ?_)
    rcases hr with ⟨rfl, c_2⟩ | ⟨rfl, c_2⟩
    · skip
      refine lv_if_ne (tgt := 31) hx hb dX11_match_17 (by decide) (fun _ => ?_) (fun c => absurd c (by decide))
      obtain ⟨i, hi_, rfl⟩ := z_natlt c_1.1 c_1.2 (by omega)
      refine lv_aload_n hx hb dX11_match_31 rfl (lv_at hl 0 rfl) ?_
      refine lv_iload_n hx hb dX11_match_32 rfl (lv_at hl 1 rfl) ?_
      refine lv_iload_n hx hb dX11_match_33 rfl (lv_at hl 2 rfl) ?_
      refine vp_callSi (z_runV (b := mo) (As := [.int (nI i), .int w]) (rest := []) hx hb hml hown hts hK hN hl.1 (c_X11_matchNow l D cI cB cP mo m_hard m_blows m_stripes m_kd m_wt m_boys m_learnt m_fond m_qp m_ql m_qr m_codes m_left m_row m_sv m_k_fond m_k_stripes m_k_learnt m_k_boys m_k_qp m_k_ql m_k_qr wI nM sS sF lM sN iK kS kP kH hh sch asks lessons limit np nh size hard blows kd wt fond i w (hnp) (hkd) (hwt) (hfo) (hha) (hbl) (hls) (hi_) (hb0 _ hi_) (by first | exact (z_w01 c_2).imp_right Or.inl | exact Or.inr (Or.inr (z_w12.mp c_3)))) gX11_match_X11_matchNow rfl zd_X11_matchNow rfl (Nat.le_of_ble_eq_true rfl) (Nat.le_of_ble_eq_true rfl) (va_P.sub (ws' := [(mo, .inr (11, [.int sch, .int (nI lessons), .int (nI limit), .ref m_hard, .ref m_blows, .ref m_stripes, .int (nI np), .ref m_kd, .ref m_wt, .ref m_boys, .ref m_learnt, .ref m_fond, .int (nI nh), .ref m_qp, .ref m_ql, .ref m_qr, .int asks, .int (nI size), .ref m_codes, .int wI, .int nM, .int sS, .int sF, .ref m_left, .int lM, .ref m_row, .long sN, .ref m_sv, .int iK, .int kS, .int kP, .int kH, .ref m_k_fond, .ref m_k_stripes, .ref m_k_learnt, .ref m_k_boys, .ref m_k_qp, .ref m_k_ql, .ref m_k_qr, .long hh])), (m_hard, .inl (cI, 5, .inl (fun q_ => nI (hard q_)))), (m_blows, .inl (cI, 5, .inl (fun q_ => nI (blows q_)))), (m_kd, .inl (cI, 3, .inl (fun q_ => nI (kd q_)))), (m_wt, .inl (cI, 3, .inl (fun q_ => nI (wt q_)))), (m_fond, .inl (cI, 9, .inl (fun q_ => nI (fond q_))))]) hP [0, 1, 2, 3, 4, 5] rfl) (va_recv hK hP (ci := 11) (q0 := 0) rfl rfl) rfl (Nat.le_of_ble_eq_true rfl) dX11_match_34 ⟨Nat.zero_le _, Nat.zero_le _⟩) (fun r hr => ?_)
      subst hr
      refine lv_goto (tgt := 42) hx hb dX11_match_37 (by decide) ?_
      exact hret _ _ _ dX11_match_42 rfl
    · skip
      refine lv_if_ne (tgt := 31) hx hb dX11_match_17 (by decide) (fun c => absurd c (by decide)) (fun _ => ?_)
      refine lv_iload_n hx hb dX11_match_20 rfl (lv_at hl 2 rfl) ?_
      refine lv_bipush (v := (10)) hx hb dX11_match_21 (by decide) ?_
      refine lv_bipush (v := (12)) hx hb dX11_match_23 (by decide) ?_
      refine vp_callSi (z_runS (As := [.int w, .int 10, .int 12]) (rest := []) hx hb hml hown hts hK hN hl.1 (c_X11_within l D cI cB cP w 10 12) gX11_match_X11_within rfl zd_X11_within rfl (Nat.le_of_ble_eq_true rfl) (Nat.le_of_ble_eq_true rfl) z_p0 rfl (Nat.le_of_ble_eq_true rfl) dX11_match_25 ⟨Nat.zero_le _, Nat.zero_le _⟩) (fun r hr => ?_)
      rcases hr with ⟨rfl, c_3⟩ | ⟨rfl, c_3⟩
      · skip
        refine lv_if_eq (tgt := 40) hx hb dX11_match_28 (by decide) (fun c => absurd c (by decide)) (fun _ => ?_)
        obtain ⟨i, hi_, rfl⟩ := z_natlt c_1.1 c_1.2 (by omega)
        refine lv_aload_n hx hb dX11_match_31 rfl (lv_at hl 0 rfl) ?_
        refine lv_iload_n hx hb dX11_match_32 rfl (lv_at hl 1 rfl) ?_
        refine lv_iload_n hx hb dX11_match_33 rfl (lv_at hl 2 rfl) ?_
        refine vp_callSi (z_runV (b := mo) (As := [.int (nI i), .int w]) (rest := []) hx hb hml hown hts hK hN hl.1 (c_X11_matchNow l D cI cB cP mo m_hard m_blows m_stripes m_kd m_wt m_boys m_learnt m_fond m_qp m_ql m_qr m_codes m_left m_row m_sv m_k_fond m_k_stripes m_k_learnt m_k_boys m_k_qp m_k_ql m_k_qr wI nM sS sF lM sN iK kS kP kH hh sch asks lessons limit np nh size hard blows kd wt fond i w (hnp) (hkd) (hwt) (hfo) (hha) (hbl) (hls) (hi_) (hb0 _ hi_) (by first | exact (z_w01 c_2).imp_right Or.inl | exact Or.inr (Or.inr (z_w12.mp c_3)))) gX11_match_X11_matchNow rfl zd_X11_matchNow rfl (Nat.le_of_ble_eq_true rfl) (Nat.le_of_ble_eq_true rfl) (va_P.sub (ws' := [(mo, .inr (11, [.int sch, .int (nI lessons), .int (nI limit), .ref m_hard, .ref m_blows, .ref m_stripes, .int (nI np), .ref m_kd, .ref m_wt, .ref m_boys, .ref m_learnt, .ref m_fond, .int (nI nh), .ref m_qp, .ref m_ql, .ref m_qr, .int asks, .int (nI size), .ref m_codes, .int wI, .int nM, .int sS, .int sF, .ref m_left, .int lM, .ref m_row, .long sN, .ref m_sv, .int iK, .int kS, .int kP, .int kH, .ref m_k_fond, .ref m_k_stripes, .ref m_k_learnt, .ref m_k_boys, .ref m_k_qp, .ref m_k_ql, .ref m_k_qr, .long hh])), (m_hard, .inl (cI, 5, .inl (fun q_ => nI (hard q_)))), (m_blows, .inl (cI, 5, .inl (fun q_ => nI (blows q_)))), (m_kd, .inl (cI, 3, .inl (fun q_ => nI (kd q_)))), (m_wt, .inl (cI, 3, .inl (fun q_ => nI (wt q_)))), (m_fond, .inl (cI, 9, .inl (fun q_ => nI (fond q_))))]) hP [0, 1, 2, 3, 4, 5] rfl) (va_recv hK hP (ci := 11) (q0 := 0) rfl rfl) rfl (Nat.le_of_ble_eq_true rfl) dX11_match_34 ⟨Nat.zero_le _, Nat.zero_le _⟩) (fun r hr => ?_)
        subst hr
        refine lv_goto (tgt := 42) hx hb dX11_match_37 (by decide) ?_
        exact hret _ _ _ dX11_match_42 rfl
      · skip
        refine lv_if_eq (tgt := 40) hx hb dX11_match_28 (by decide) (fun _ => ?_) (fun c => absurd c (by decide))
        refine lv_bipush (v := (-102)) hx hb dX11_match_40 (by decide) ?_
        exact hret _ _ _ dX11_match_42 (by rw [zMatch, if_neg (fun h => h.elim c_1.1 (fun h => h c_1.2)), if_pos (fun h => h.elim (fun h => c_2 (z_w01' (Or.inl h))) (fun h => h.elim (fun h => c_2 (z_w01' (Or.inr h))) (fun h => c_3 (z_w12.mpr h))))])
  · skip
    refine lv_if_ne (tgt := 11) hx hb dX11_match_5 (by decide) (fun c => absurd c (by decide)) (fun _ => ?_)
    refine lv_bipush (v := (-101)) hx hb dX11_match_8 (by decide) ?_
    exact hret _ _ _ dX11_match_10 (by rw [zMatch, if_pos (z_nl c_1)])
