theorem z_andN {a b : Nat} (ha : a < 2 ^ 31) (hb : b < 2 ^ 31) : nI a &&& nI b = nI (a &&& b) := by
  rw [← Int32.toBitVec_inj]
  have e : ∀ n, n < 2 ^ 31 → (nI n).toBitVec.toNat = n := fun n h => pk_tn (by omega)
  have h1 : a &&& b < 2 ^ 31 := Nat.lt_of_le_of_lt Nat.and_le_left ha
  apply BitVec.eq_of_toNat_eq
  rw [Int32.toBitVec_and, BitVec.toNat_and, e a ha, e b hb, e _ h1]
def zCl (w k lim : Nat) (hard blows : Nat → Nat) (F sg : Nat) : List Nat → Nat → Int32 → Nat → Bool
  | [], _, _, more => decide (more = sg)
  | i :: L, f, st, more => if F / 2 ^ i % 2 = 1 then decide (zTen w k f (hard i) ≠ 10) && zCl w k lim hard blows F sg L (zFond f (st + nI (blows i)) lim) (st + nI (blows i)) (more + blows i) else decide (zTen w k f (hard i) ≠ 0) && zCl w k lim hard blows F sg L f st more
def zDj (le : Nat) : Nat → Nat → Nat → Bool
  | 0, _, _ => true
  | d + 1, i, F => (if le / 2 ^ i % 2 = 1 then decide (F % 2 = 0) else true) && zDj le d (i + 1) (F / 2)
def zUn (le : Nat) : Nat → Nat → List Nat
  | 0, _ => []
  | d + 1, i => if le / 2 ^ i % 2 = 1 then zUn le d (i + 1) else i :: zUn le d (i + 1)
def zCf (w k lim le : Nat) (hard blows : Nat → Nat) (goal : Int32) : Nat → Nat → Nat → Nat → Int32 → Bool
  | 0, _, _, _, st => decide (st = goal)
  | d + 1, i, F, f, st => if le / 2 ^ i % 2 = 1 then decide (F % 2 = 0) && zCf w k lim le hard blows goal d (i + 1) (F / 2) f st
    else if F % 2 = 1 then decide (zTen w k f (hard i) < 10) && zCf w k lim le hard blows goal d (i + 1) (F / 2) (zFond f (st + nI (blows i)) lim) (st + nI (blows i))
    else decide (0 < zTen w k f (hard i)) && zCf w k lim le hard blows goal d (i + 1) (F / 2) f st
theorem z_filF : ∀ l : List Nat, l.filter (fun _ => false) = [] := by
  intro l
  induction l with
  | nil => rfl
  | cons a l ih => rw [List.filter_cons, if_neg (by decide), ih]
theorem zEo (P : Nat → Bool) (g : Nat → Nat) : ∀ n, List.Perm (((List.range (2 * n)).filter P).map g) (((List.range n).filter (fun F => P (2 * F))).map (fun F => g (2 * F)) ++ ((List.range n).filter (fun F => P (2 * F + 1))).map (fun F => g (2 * F + 1))) := by
  intro n
  induction n with
  | zero => exact List.Perm.refl _
  | succ n ih =>
    have e1 : ((List.range (2 * (n + 1))).filter P).map g = (((List.range (2 * n)).filter P).map g ++ ([2 * n].filter P).map g) ++ ([2 * n + 1].filter P).map g := by
      rw [show 2 * (n + 1) = 2 * n + 1 + 1 by omega, List.range_succ, List.range_succ, List.filter_append, List.filter_append, List.map_append, List.map_append]
    have e2 : ((List.range (n + 1)).filter (fun F => P (2 * F))).map (fun F => g (2 * F)) = ((List.range n).filter (fun F => P (2 * F))).map (fun F => g (2 * F)) ++ ([2 * n].filter P).map g := by
      rw [List.range_succ, List.filter_append, List.map_append]
      congr 1
      cases h : P (2 * n) <;> simp [h]
    have e3 : ((List.range (n + 1)).filter (fun F => P (2 * F + 1))).map (fun F => g (2 * F + 1)) = ((List.range n).filter (fun F => P (2 * F + 1))).map (fun F => g (2 * F + 1)) ++ ([2 * n + 1].filter P).map g := by
      rw [List.range_succ, List.filter_append, List.map_append]
      congr 1
      cases h : P (2 * n + 1) <;> simp [h]
    rw [e1, e2, e3]
    generalize ((List.range n).filter (fun F => P (2 * F))).map (fun F => g (2 * F)) = E at ih
    generalize ((List.range n).filter (fun F => P (2 * F + 1))).map (fun F => g (2 * F + 1)) = O at ih
    generalize ([2 * n].filter P).map g = a
    generalize ([2 * n + 1].filter P).map g = b
    refine List.Perm.trans (List.Perm.append_right b (List.Perm.append_right a ih)) ?_
    rw [List.append_assoc, List.append_assoc, List.append_assoc]
    refine List.Perm.append_left E ?_
    rw [← List.append_assoc, ← List.append_assoc]
    exact List.Perm.append_right b List.perm_append_comm
theorem z_oradd {f i : Nat} (h : f < 2 ^ i) : f ||| 2 ^ i = f + 2 ^ i := by
  have h1 := Nat.two_pow_add_eq_or_of_lt h 1
  rw [Nat.mul_one] at h1
  rw [Nat.or_comm, ← h1, Nat.add_comm]
theorem zFl_perm {w k lim le : Nat} {hard blows : Nat → Nat} {goal : Int32} : ∀ (d i f : Nat) (st : Int32) (failed : Nat), failed < 2 ^ i → List.Perm (zFl w k lim le hard blows goal d i f st failed) (((List.range (2 ^ d)).filter (fun F => zCf w k lim le hard blows goal d i F f st)).map (fun F => failed + 2 ^ i * F)) := by
  intro d
  induction d with
  | zero =>
    intro i f st failed _
    rw [zFl]
    by_cases h : st = goal
    · rw [if_pos h]; simp [zCf, h]
    · rw [if_neg h]; simp [zCf, h]
  | succ d ih =>
    intro i f st failed hf
    have hp := zEo (fun F => zCf w k lim le hard blows goal (d + 1) i F f st) (fun F => failed + 2 ^ i * F) (2 ^ d)
    rw [show 2 * 2 ^ d = 2 ^ (d + 1) by rw [Nat.pow_succ, Nat.mul_comm]] at hp
    refine List.Perm.trans ?_ hp.symm
    have hlt : failed < 2 ^ (i + 1) := by rw [Nat.pow_succ]; omega
    have g0 : (fun F => failed + 2 ^ i * (2 * F)) = fun F => failed + 2 ^ (i + 1) * F := by funext F; rw [Nat.pow_succ, Nat.mul_assoc]
    have g1 : (fun F => failed + 2 ^ i * (2 * F + 1)) = fun F => (failed ||| 2 ^ i) + 2 ^ (i + 1) * F := by
      funext F
      rw [z_oradd hf, Nat.pow_succ, Nat.mul_assoc, Nat.mul_add, Nat.mul_one]; omega
    have hlt1 : failed ||| 2 ^ i < 2 ^ (i + 1) := by rw [z_oradd hf, Nat.pow_succ]; omega
    show List.Perm _ (((List.range (2 ^ d)).filter (fun F => zCf w k lim le hard blows goal (d + 1) i (2 * F) f st)).map (fun F => failed + 2 ^ i * (2 * F)) ++ ((List.range (2 ^ d)).filter (fun F => zCf w k lim le hard blows goal (d + 1) i (2 * F + 1) f st)).map (fun F => failed + 2 ^ i * (2 * F + 1)))
    rw [g0, g1]
    by_cases hb : le / 2 ^ i % 2 = 1
    · have e0 : (fun F => zCf w k lim le hard blows goal (d + 1) i (2 * F) f st) = fun F => zCf w k lim le hard blows goal d (i + 1) F f st := by
        funext F; rw [zCf, if_pos hb, show 2 * F / 2 = F by omega, decide_eq_true (show 2 * F % 2 = 0 by omega), Bool.true_and]
      have e1 : (fun F => zCf w k lim le hard blows goal (d + 1) i (2 * F + 1) f st) = fun _ => false := by
        funext F; rw [zCf, if_pos hb, decide_eq_false (show ¬ (2 * F + 1) % 2 = 0 by omega), Bool.false_and]
      rw [e0, e1, zFl, if_pos hb, z_filF, List.map_nil, List.append_nil]
      exact ih (i + 1) f st failed hlt
    · rw [zFl, if_neg hb]
      refine List.Perm.append ?_ ?_
      · by_cases ht : 0 < zTen w k f (hard i)
        · have e0 : (fun F => zCf w k lim le hard blows goal (d + 1) i (2 * F) f st) = fun F => zCf w k lim le hard blows goal d (i + 1) F f st := by
            funext F; rw [zCf, if_neg hb, if_neg (show ¬ 2 * F % 2 = 1 by omega), show 2 * F / 2 = F by omega, decide_eq_true ht, Bool.true_and]
          rw [e0, if_pos ht]
          exact ih (i + 1) f st failed hlt
        · have e0 : (fun F => zCf w k lim le hard blows goal (d + 1) i (2 * F) f st) = fun _ => false := by
            funext F; rw [zCf, if_neg hb, if_neg (show ¬ 2 * F % 2 = 1 by omega), decide_eq_false ht, Bool.false_and]
          rw [e0, if_neg ht, z_filF, List.map_nil]
      · by_cases ht : zTen w k f (hard i) < 10
        · have e1 : (fun F => zCf w k lim le hard blows goal (d + 1) i (2 * F + 1) f st) = fun F => zCf w k lim le hard blows goal d (i + 1) F (zFond f (st + nI (blows i)) lim) (st + nI (blows i)) := by
            funext F; rw [zCf, if_neg hb, if_pos (show (2 * F + 1) % 2 = 1 by omega), show (2 * F + 1) / 2 = F by omega, decide_eq_true ht, Bool.true_and]
          rw [e1, if_pos ht]
          exact ih (i + 1) _ _ _ hlt1
        · have e1 : (fun F => zCf w k lim le hard blows goal (d + 1) i (2 * F + 1) f st) = fun _ => false := by
            funext F; rw [zCf, if_neg hb, if_pos (show (2 * F + 1) % 2 = 1 by omega), decide_eq_false ht, Bool.false_and]
          rw [e1, if_neg ht, z_filF, List.map_nil]
theorem zCf_split {w k lim le S sg : Nat} {hard blows : Nat → Nat} {s0 : Int32} (hbl : ∀ i, blows i ≤ 9) (hsg : sg ≤ 1000) : ∀ (d i f : Nat) (st : Int32) (more : Nat), st = s0 + nI more → more + 9 * d ≤ 1000 → zCf w k lim le hard blows (s0 + nI sg) d i (S / 2 ^ i) f st = (zDj le d i (S / 2 ^ i) && zCl w k lim hard blows S sg (zUn le d i) f st more) := by
  intro d
  induction d with
  | zero =>
    intro i f st more hst hm
    rw [zCf, zDj, zUn, zCl, Bool.true_and]
    refine decide_eq_decide.mpr ?_
    rw [hst, Int32.add_right_inj, nI_eq (by omega) (by omega)]
  | succ d ih =>
    intro i f st more hst hm
    have hd : S / 2 ^ i / 2 = S / 2 ^ (i + 1) := by rw [Nat.div_div_eq_div_mul, ← Nat.pow_succ]
    have hbi := hbl i
    by_cases hb : le / 2 ^ i % 2 = 1
    · rw [zCf, if_pos hb, zDj, if_pos hb, zUn, if_pos hb, hd, ih (i + 1) f st more hst (by omega), Bool.and_assoc]
    · rw [zCf, if_neg hb, zDj, if_neg hb, zUn, if_neg hb, zCl, hd, Bool.true_and]
      have ht := @zTen_le w k f (hard i)
      by_cases hs : S / 2 ^ i % 2 = 1
      · rw [if_pos hs, if_pos hs, ih (i + 1) _ (st + nI (blows i)) (more + blows i) (by rw [hst, Int32.add_assoc, nI_add]) (by omega), Bool.and_left_comm]
        congr 2
        exact decide_eq_decide.mpr (by omega)
      · rw [if_neg hs, if_neg hs, ih (i + 1) f st more hst (by omega), Bool.and_left_comm]
        congr 2
        exact decide_eq_decide.mpr (by omega)
theorem zDj_and : ∀ lessons, lessons < 6 → ∀ le, le < 32 → ∀ S, S < 2 ^ lessons → zDj le lessons 0 S = decide (S &&& le = 0) := by decide +kernel
theorem zUn_LL : ∀ lessons, lessons < 6 → ∀ le, le < 32 → zUn le lessons 0 = zLL le lessons := by decide +kernel
/-- the sets that could be, by their numbers -/
def zVf (w k lim : Nat) (hard blows : Nat → Nat) (le sg : Nat) (L : List Nat) (f : Nat) (st : Int32) (F : Nat) : Bool := decide (F &&& le = 0) && zCl w k lim hard blows F sg L f st 0
def zFs (V : Nat → Bool) (n : Nat) : List Nat := (List.range n).filter V
theorem zFs_t {V : Nat → Bool} {n : Nat} (h : V n = true) : zFs V (n + 1) = zFs V n ++ [n] := by
  unfold zFs; rw [List.range_succ, List.filter_append]; simp [h]
theorem zFs_f {V : Nat → Bool} {n : Nat} (h : V n = false) : zFs V (n + 1) = zFs V n := by
  unfold zFs; rw [List.range_succ, List.filter_append]; simp [h]
theorem zFau_perm {w k lim le sg lessons f : Nat} {hard blows : Nat → Nat} {st : Int32} (hbl : ∀ i, blows i ≤ 9) (hsg : sg ≤ 1000) (hl : lessons ≤ 5) (hle : le < 32) : List.Perm (zFl w k lim le hard blows (st + nI sg) lessons 0 f st 0) (zFs (zVf w k lim hard blows le sg (zLL le lessons) f st) (2 ^ lessons)) := by
  have h := zFl_perm (w := w) (k := k) (lim := lim) (le := le) (hard := hard) (blows := blows) (goal := st + nI sg) lessons 0 f st 0 (by omega)
  have e : (fun F : Nat => 0 + 2 ^ 0 * F) = id := by funext F; simp
  rw [e, List.map_id] at h
  refine h.trans (List.Perm.of_eq (List.filter_congr (fun F hF => ?_)))
  have hF2 := List.mem_range.mp hF
  have hs := zCf_split (w := w) (k := k) (lim := lim) (le := le) (S := F) (hard := hard) (s0 := st) hbl hsg lessons 0 f st 0 (by rw [nI_0, Int32.add_zero]) (by omega)
  rw [Nat.pow_zero, Nat.div_one] at hs
  rw [hs, zDj_and lessons (by omega) le hle F hF2, zUn_LL lessons (by omega) le hle]
  rfl
theorem z_and31 : ∀ x, x < 32 → (31 : Int32) &&& nI x = nI x := by decide +kernel
theorem z_andm1 : ∀ x, x < 32 → (-1 : Int32) &&& nI x = nI x := by decide +kernel
theorem zAnd_31 {M : List Nat} (h : ∀ x, x ∈ M → x < 32) (h0 : ¬ M.length = 0) : zAnd 31 M = zAnd (-1) M := by
  cases M with
  | nil => exact absurd rfl h0
  | cons x M =>
    show zAnd (31 &&& nI x) M = zAnd (-1 &&& nI x) M
    rw [z_and31 x (h x List.mem_cons_self), z_andm1 x (h x List.mem_cons_self)]
theorem zAnd_perm {L M : List Nat} (h : List.Perm L M) (a : Int32) : zAnd a L = zAnd a M := by
  unfold zAnd
  exact h.foldl_eq' (fun x _ y _ z => by rw [Int32.and_assoc, Int32.and_comm (nI x), ← Int32.and_assoc]) a
theorem zFs_lt {V : Nat → Bool} {n : Nat} : ∀ x, x ∈ zFs V n → x < n := fun x h => List.mem_range.mp (List.mem_filter.mp h).1
theorem zFs_len {V : Nat → Bool} {n : Nat} : (zFs V n).length ≤ n := by
  have := List.length_filter_le V (List.range n)
  rw [List.length_range] at this
  exact this
theorem zFauA_m {L M : List Nat} {w : Int32} (h : List.Perm L M) (h32 : ∀ x, x ∈ M → x < 32) : zFauA L w = if w = 0 then nI M.length else if M.length = 0 then -1 else zAnd 31 M := by
  rw [zFauA, h.length_eq]
  by_cases h0 : M.length = 0
  · rw [if_pos h0, if_pos h0]
  · rw [if_neg h0, if_neg h0, zAnd_31 h32 h0, zAnd_perm h]
theorem z_w01n {w : Int32} {k : Nat} (hk : k < 2) (e : w = nI k) : ¬ (w < 0 ∨ 1 < w) := by
  subst e
  exact (by decide +kernel : ∀ k, k < 2 → ¬ (nI k < 0 ∨ 1 < nI k)) k hk
