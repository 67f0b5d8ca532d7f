theorem z_ine {z : Nat} (h : 0 < z) (h2 : z < 2 ^ 31) : ¬ nI z = 0 := fun e => by
  have := (nI_eq (a := z) (b := 0) h2 (by omega)).mp e
  omega
theorem z_vaS {f : Nat → Nat} {k v : Nat} : va_up f k v k = v := by simp [va_up]
theorem z_vaU {f : Nat → Nat} {k v w : Nat} : va_up (va_up f k v) k w = va_up f k w := by
  funext q; by_cases e : q = k <;> simp [va_up, e]
theorem z_vaI {f : Nat → Nat} {k : Nat} : va_up f k (f k) = f := by
  funext q; by_cases e : q = k <;> simp [va_up, e]
theorem z_vaB {f : Nat → Nat} {k v n : Nat} (h : ∀ i, f i ≤ n) (hv : v ≤ n) : ∀ i, va_up f k v i ≤ n := fun i => by
  unfold va_up; split
  · exact hv
  · exact h i
theorem z_vaL {f : Nat → Nat} {k v n : Nat} (h : ∀ i, f i < n) (hv : v < n) : ∀ i, va_up f k v i < n := fun i => by
  unfold va_up; split
  · exact hv
  · exact h i
theorem z_upS {f : Nat → Int32} {k : Nat} {v : Int32} : upd f k v k = v := by simp [upd]
theorem z_upU {f : Nat → Int32} {k : Nat} {v w : Int32} : upd (upd f k v) k w = upd f k w := by
  funext q; by_cases e : q = k <;> simp [upd, e]
theorem z_upI {f : Nat → Int32} {k : Nat} : upd f k (f k) = f := by
  funext q; by_cases e : q = k <;> simp [upd, e]
def zOd (w k lim : Nat) (hard blows : Nat → Nat) : List Nat → Nat → Nat → Int32 → Nat
  | [], _, _, _ => 1
  | i :: L, F, f, st => if F % 2 = 1 then (10 - zTen w k f (hard i)) * zOd w k lim hard blows L (F / 2) (zFond f (st + nI (blows i)) lim) (st + nI (blows i)) else zTen w k f (hard i) * zOd w k lim hard blows L (F / 2) f st
def zBs (blows : Nat → Nat) : List Nat → Nat → Nat
  | [], _ => 0
  | i :: L, F => (if F % 2 = 1 then blows i else 0) + zBs blows L (F / 2)
def zSig (g : Nat → Nat) : Nat → Nat
  | 0 => 0
  | n + 1 => zSig g n + g n
theorem zSig_two (g : Nat → Nat) : ∀ n, zSig g (2 * n) = zSig (fun F => g (2 * F) + g (2 * F + 1)) n := by
  intro n
  induction n with
  | zero => rfl
  | succ n ih => rw [show 2 * (n + 1) = 2 * n + 1 + 1 by omega, zSig, zSig, ih, zSig, Nat.add_assoc]
theorem zSig_add (g h : Nat → Nat) : ∀ n, zSig (fun F => g F + h F) n = zSig g n + zSig h n := by
  intro n
  induction n with
  | zero => rfl
  | succ n ih => rw [zSig, zSig, zSig, ih]; omega
theorem zSig_mul (c : Nat) (g : Nat → Nat) : ∀ n, zSig (fun F => c * g F) n = c * zSig g n := by
  intro n
  induction n with
  | zero => rfl
  | succ n ih => rw [zSig, zSig, ih, Nat.mul_add]
theorem zSig_od {w k lim : Nat} {hard blows : Nat → Nat} : ∀ (L : List Nat) (f : Nat) (st : Int32), zSig (fun F => zOd w k lim hard blows L F f st) (2 ^ L.length) = 10 ^ L.length := by
  intro L
  induction L with
  | nil => intro f st; rfl
  | cons i L ih =>
    intro f st
    have e : (fun F => zOd w k lim hard blows (i :: L) (2 * F) f st + zOd w k lim hard blows (i :: L) (2 * F + 1) f st) = fun F => zTen w k f (hard i) * zOd w k lim hard blows L F f st + (10 - zTen w k f (hard i)) * zOd w k lim hard blows L F (zFond f (st + nI (blows i)) lim) (st + nI (blows i)) := by
      funext F
      rw [zOd, zOd, if_neg (by omega), if_pos (by omega), show 2 * F / 2 = F by omega, show (2 * F + 1) / 2 = F by omega]
    have ht := @zTen_le w k f (hard i)
    rw [List.length_cons, Nat.pow_succ, Nat.mul_comm (2 ^ L.length) 2, zSig_two, e, zSig_add, zSig_mul, zSig_mul, ih, ih, ← Nat.add_mul, show zTen w k f (hard i) + (10 - zTen w k f (hard i)) = 10 by omega, Nat.pow_succ, Nat.mul_comm]
theorem zSig_ml {w k lim : Nat} {hard blows : Nat → Nat} : ∀ (L : List Nat) (f : Nat) (st : Int32), zSig (fun F => zOd w k lim hard blows L F f st * zBs blows L F) (2 ^ L.length) = zMl w k lim hard blows L f st := by
  intro L
  induction L with
  | nil => intro f st; rfl
  | cons i L ih =>
    intro f st
    have e : (fun F => zOd w k lim hard blows (i :: L) (2 * F) f st * zBs blows (i :: L) (2 * F) + zOd w k lim hard blows (i :: L) (2 * F + 1) f st * zBs blows (i :: L) (2 * F + 1)) = fun F => zTen w k f (hard i) * (zOd w k lim hard blows L F f st * zBs blows L F) + ((10 - zTen w k f (hard i)) * (blows i * zOd w k lim hard blows L F (zFond f (st + nI (blows i)) lim) (st + nI (blows i))) + (10 - zTen w k f (hard i)) * (zOd w k lim hard blows L F (zFond f (st + nI (blows i)) lim) (st + nI (blows i)) * zBs blows L F)) := by
      funext F
      rw [zOd, zOd, zBs, zBs, if_neg (show ¬ 2 * F % 2 = 1 by omega), if_pos (show (2 * F + 1) % 2 = 1 by omega), if_neg (show ¬ 2 * F % 2 = 1 by omega), if_pos (show (2 * F + 1) % 2 = 1 by omega), show 2 * F / 2 = F by omega, show (2 * F + 1) / 2 = F by omega, Nat.zero_add, Nat.mul_assoc, Nat.mul_assoc, Nat.mul_add, Nat.mul_add, Nat.mul_comm (zOd w k lim hard blows L F (zFond f (st + nI (blows i)) lim) (st + nI (blows i))) (blows i)]
    rw [List.length_cons, Nat.pow_succ, Nat.mul_comm (2 ^ L.length) 2, zSig_two, e]
    simp only [zSig_add, zSig_mul, zSig_od, ih]
    rw [zMl, Nat.mul_add]
def zFc : Nat → Nat | 0 => 1 | n + 1 => zFc n * (n + 1)
def zLL (le : Nat) : Nat → List Nat | 0 => [] | l + 1 => if le / 2 ^ l % 2 = 1 then zLL le l else zLL le l ++ [l]
def zAtF : Nat → Nat → Nat → Nat → Nat
  | 0, _, _, j => j
  | d + 1, u, sk, j => if u / 2 ^ j % 2 = 1 ∨ 0 < sk then zAtF d u (if u / 2 ^ j % 2 = 1 then sk else sk - 1) (j + 1) else j
def zLo (n code : Nat) : Nat → Nat × Nat × Nat
  | 0 => (code, zFc n, 0)
  | k + 1 => ((zLo n code k).1 % ((zLo n code k).2.1 / (n - k)), (zLo n code k).2.1 / (n - k), (zLo n code k).2.2 ||| 2 ^ zAtF 5 (zLo n code k).2.2 ((zLo n code k).1 / ((zLo n code k).2.1 / (n - k))) 0)
def zAt_ (n code k : Nat) : Nat := zAtF 5 (zLo n code k).2.2 ((zLo n code k).1 / ((zLo n code k).2.1 / (n - k))) 0
def zPk (n code : Nat) : Nat → List Nat | 0 => [] | k + 1 => zPk n code k ++ [zAt_ n code k]
theorem zLo_ok : ∀ n, n < 6 → ∀ code, code < zFc n → ∀ k, k < n → ((zLo n code k).2.1 ≤ 120 ∧ 0 < (zLo n code k).2.1 / (n - k) ∧ (zLo n code k).1 ≤ 120 ∧ (zLo n code k).2.2 < 32 ∧ zAt_ n code k < n) := by decide +kernel
def zRo (le lessons n c : Nat) : List Nat := (zPk n c n).map (fun a => (zLL le lessons).getD a 0)
theorem zLv_pm : ∀ lessons, lessons < 6 → ∀ le, le < 32 → zLv lessons (zCnt le lessons) le = (List.range (zFc (zCnt le lessons))).map (zRo le lessons (zCnt le lessons)) := by decide +kernel
theorem zPk_lt {n code : Nat} (hn : n ≤ 5) (hc : code < zFc n) : ∀ k, k ≤ n → ∀ a, a ∈ zPk n code k → a < n := by
  intro k
  induction k with
  | zero => intro _ a h; cases h
  | succ k ih =>
    intro hk a h
    rw [zPk] at h
    rcases List.mem_append.mp h with h | h
    · exact ih (by omega) a h
    · rw [List.mem_singleton.mp h]; exact (zLo_ok n (by omega) code hc k (by omega)).2.2.2.2
theorem z_ro2 {left : Nat → Nat} {n c le lessons : Nat} (hn : n ≤ 5) (hc : c < zFc n) (hL : zSlice left 0 n = zLL le lessons) : (zPk n c n).map left = zRo le lessons n c := by
  refine List.map_congr_left (fun a ha => ?_)
  have h := zSlice_getD left n 0 a (zPk_lt hn hc n (Nat.le_refl _) a ha)
  rw [← hL, h, Nat.zero_add]
theorem zFc_le : ∀ n, n < 6 → zFc n ≤ 120 := by decide +kernel
theorem zFc_pos : ∀ n, n < 6 → 0 < zFc n := by decide +kernel
def zOx (mean : List Nat → Nat) (ro : Nat → List Nat) : Nat → zSg
  | 0 => none
  | c + 1 => zUpd (zOx mean ro c) (mean (ro c)) (ro c)
theorem zOx_fold {mean : List Nat → Nat} {ro : Nat → List Nat} : ∀ n, zOx mean ro n = ((List.range n).map ro).foldl (fun x L => zUpd x (mean L) L) none := by
  intro n
  induction n with
  | zero => rfl
  | succ n ih => rw [List.range_succ, List.map_append, List.foldl_append, ← ih]; rfl
theorem zArr_ox {mean : List Nat → Nat} {lessons le : Nat} (hl : lessons ≤ 5) (h : le < 32) : zArr mean lessons (zCnt le lessons) [] le none = zOx mean (zRo le lessons (zCnt le lessons)) (zFc (zCnt le lessons)) := by
  rw [zArr_eq, zLv_pm lessons (by omega) le h, zOx_fold]
  rfl
def zOR (x : zSg) (bs : Int32) (lt : Int64) (ro : Nat → List Nat) (wy : Nat) : Prop := match x with
  | none => bs = -1
  | some (b, B) => ∃ c, c < wy ∧ bs = nI c ∧ lt = lN b ∧ b < 2 ^ 62 ∧ B = ro c
theorem z_im1 {c : Nat} (h : c < 2 ^ 31) : ¬ nI c = -1 := fun e => by
  have h1 : (nI c).toInt = (-1 : Int32).toInt := by rw [e]
  rw [nI_toInt h, show (-1 : Int32).toInt = -1 from rfl] at h1
  omega
theorem zLL_lt {le : Nat} : ∀ n, ∀ a, a ∈ zLL le n → a < n := by
  intro n
  induction n with
  | zero => intro a h; cases h
  | succ n ih =>
    intro a h
    rw [zLL] at h
    split at h
    · exact Nat.lt_succ_of_lt (ih a h)
    · rcases List.mem_append.mp h with h | h
      · exact Nat.lt_succ_of_lt (ih a h)
      · rw [List.mem_singleton.mp h]; exact Nat.lt_succ_self n
