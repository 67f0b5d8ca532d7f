-- the heads of walks: the end Q is a variable, the returns are given
def zB (C : Prop) (r : Int32) : Prop := (r = 1 ∧ C) ∨ (r = 0 ∧ ¬ C)
theorem zB.t {C : Prop} (h : C) : zB C 1 := Or.inl ⟨rfl, h⟩
theorem zB.f {C : Prop} (h : ¬ C) : zB C 0 := Or.inr ⟨rfl, h⟩
section
variable {l : Launch} {D : va_G} {cI cB cP : ClassId} {y : MethodName} {ws ws' : List Cond} {rm : Room} {av : List Value} {RS : va_W} {cc : ByteArray} {maxL : Nat}
theorem zPi_of {post : Int32 → Prop} (hy : plainName y.cls = true) (hw : ws = Cond.code y cc maxL (some .int) :: ws') (hlen : (lg_sl av).length ≤ maxL)
    (body : ∀ (p : Program) (e : Env) (s : State) (m : MethodId) (args : Array Value) (below : List Frame) (meth : Method) (c : Code) (ls : Array Slot) (Q : State → Prop), p.tables.exec = Jvm.exec → c.code = cc → c.maxLocals = maxL → (∀ w ∈ ws, w.before args s = true) → s.vm.findClass y.cls = some m.cls → va_P D vwCl RS s.heap → va_K D vwCl (zT cI cB cP) s → zN s → lv_has ls maxL (lv_args 0 av) →
      (∀ (pc : Nat) (ls : Array Slot) (v : Int32), decode cc pc = .ok (.ireturn, 1) → post v → W p l e rm s m args below meth c s.heap [] 0 0 Q (F0 m pc ls [.int v])) → W p l e rm s m args below meth c s.heap [] 0 0 Q (F0 m 0 ls [])) : zPi l D cI cB cP y ws rm av RS post :=
  z_ofR hy hw hlen (fun p e s m args below meth c ls hx hb hml hr hts hown hlocks hP hK hN hl => body p e s m args below meth c ls _ hx hb hml hts hown hP hK hN hl (fun pc ls v hdg hp => z_iret hx hb hr hlocks hdg hp))
theorem zPz_of {post : Int32 → Prop} (hy : plainName y.cls = true) (hw : ws = Cond.code y cc maxL (some .boolean) :: ws') (hlen : (lg_sl av).length ≤ maxL)
    (body : ∀ (p : Program) (e : Env) (s : State) (m : MethodId) (args : Array Value) (below : List Frame) (meth : Method) (c : Code) (ls : Array Slot) (Q : State → Prop), p.tables.exec = Jvm.exec → c.code = cc → c.maxLocals = maxL → (∀ w ∈ ws, w.before args s = true) → s.vm.findClass y.cls = some m.cls → va_P D vwCl RS s.heap → va_K D vwCl (zT cI cB cP) s → zN s → lv_has ls maxL (lv_args 0 av) →
      (∀ (pc : Nat) (ls : Array Slot) (v : Int32), decode cc pc = .ok (.ireturn, 1) → narrow .boolean (.int v) = .int v → post v → W p l e rm s m args below meth c s.heap [] 0 0 Q (F0 m pc ls [.int v])) → W p l e rm s m args below meth c s.heap [] 0 0 Q (F0 m 0 ls [])) : zPi l D cI cB cP y ws rm av RS post :=
  z_ofR hy hw hlen (fun p e s m args below meth c ls hx hb hml hr hts hown hlocks hP hK hN hl => body p e s m args below meth c ls _ hx hb hml hts hown hP hK hN hl (fun pc ls v hdg hn hp => z_zret hx hb hr hlocks hn hdg hp))
theorem zPl_of {post : Int64 → Prop} (hy : plainName y.cls = true) (hw : ws = Cond.code y cc maxL (some .long) :: ws') (hlen : (lg_sl av).length ≤ maxL)
    (body : ∀ (p : Program) (e : Env) (s : State) (m : MethodId) (args : Array Value) (below : List Frame) (meth : Method) (c : Code) (ls : Array Slot) (Q : State → Prop), p.tables.exec = Jvm.exec → c.code = cc → c.maxLocals = maxL → (∀ w ∈ ws, w.before args s = true) → s.vm.findClass y.cls = some m.cls → va_P D vwCl RS s.heap → va_K D vwCl (zT cI cB cP) s → zN s → lv_has ls maxL (lv_args 0 av) →
      (∀ (pc : Nat) (ls : Array Slot) (v : Int64), decode cc pc = .ok (.lreturn, 1) → post v → W p l e rm s m args below meth c s.heap [] 0 0 Q (F0 m pc ls [.long v])) → W p l e rm s m args below meth c s.heap [] 0 0 Q (F0 m 0 ls [])) : zPl l D cI cB cP y ws rm av RS post :=
  z_ofR hy hw hlen (fun p e s m args below meth c ls hx hb hml hr hts hown hlocks hP hK hN hl => body p e s m args below meth c ls _ hx hb hml hts hown hP hK hN hl (fun pc ls v hdg hp => z_lret hx hb hr hlocks hdg hp))
theorem zPq_of {post : Option Nat → Prop} {C : String} (hy : plainName y.cls = true) (hw : ws = Cond.code y cc maxL (some (.object C)) :: ws') (hlen : (lg_sl av).length ≤ maxL)
    (body : ∀ (p : Program) (e : Env) (s : State) (m : MethodId) (args : Array Value) (below : List Frame) (meth : Method) (c : Code) (ls : Array Slot) (Q : State → Prop), p.tables.exec = Jvm.exec → c.code = cc → c.maxLocals = maxL → (∀ w ∈ ws, w.before args s = true) → s.vm.findClass y.cls = some m.cls → va_P D vwCl RS s.heap → va_K D vwCl (zT cI cB cP) s → zN s → lv_has ls maxL (lv_args 0 av) →
      (∀ (pc : Nat) (ls : Array Slot) (v : Option Nat), decode cc pc = .ok (.areturn, 1) → post v → W p l e rm s m args below meth c s.heap [] 0 0 Q (F0 m pc ls [va_rf v])) → W p l e rm s m args below meth c s.heap [] 0 0 Q (F0 m 0 ls [])) : zPq l D cI cB cP y ws rm av RS post :=
  z_ofR hy hw hlen (fun p e s m args below meth c ls hx hb hml hr hts hown hlocks hP hK hN hl => body p e s m args below meth c ls _ hx hb hml hts hown hP hK hN hl (fun pc ls v hdg hp => z_aret hx hb hr hlocks hdg hp))
end
section
variable {p : Program} {l : Launch} {e : Env} {R : Room} {s : State} {m : MethodId} {args : Array Value} {below : List Frame} {meth : Method} {c : Code} {H : Heap} {locs : List Loc} {cells slots : Nat} {Q : State → Prop} {pc : Nat} {ls : Array Slot} {rest st0 : List Value}
theorem z_top {x y : Int32} (h : x = y) (k : W p l e R s m args below meth c H locs cells slots Q (F0 m pc ls (.int y :: rest))) : W p l e R s m args below meth c H locs cells slots Q (F0 m pc ls (.int x :: rest)) := h ▸ k
theorem z_topl {x y : Int64} (h : x = y) (k : W p l e R s m args below meth c H locs cells slots Q (F0 m pc ls (.long y :: rest))) : W p l e R s m args below meth c H locs cells slots Q (F0 m pc ls (.long x :: rest)) := h ▸ k
end
-- numbers
theorem zu (f : Nat → Nat) (k v : Nat) : upd (fun i => nI (f i)) k (nI v) = fun i => nI (va_up f k v i) := by
  funext j
  by_cases h : j = k
  · subst h; simp [upd, va_up]
  · simp [upd, va_up, h]
def zFeels (k f : Nat) : Nat := if k = 1 then (if f < 5 then 0 else f) else if k = 2 then 9 - f else if k = 3 then f / 2 else if k = 4 then (if f < 5 then 0 else f) + 2 else f
def zTen (w k f h : Nat) : Nat := min 10 (w + zFeels k f - h)
def zFond (f : Nat) (st : Int32) (lim : Nat) : Nat := if st ≤ nI lim then min 9 (f + 1) else f - 2
def zBit (b k : Nat) : Prop := b / 2 ^ k % 2 = 1
def zAt (f : Nat → Int32) (n : Nat) (i : Int32) : Int32 := if i < 0 then 0 else if nI n ≤ i then 0 else f i.toNatClampNeg
theorem z_in {i : Int32} {n : Nat} (h1 : ¬ i < 0) (h2 : ¬ nI n ≤ i) (hn : n < 2 ^ 31) : vp_in i n := by
  rw [vp_in_iff]
  rw [Int32.lt_iff_toInt_lt] at h1
  rw [Int32.le_iff_toInt_le, nI_toInt hn] at h2
  have : (0 : Int32).toInt = 0 := rfl
  omega
theorem z_ld {f : Nat → Int32} {a : Nat} (h : a < 2 ^ 31) {v : Int32} (hv : f a = v) : f (nI a).toNatClampNeg = v := by rw [nI_clamp h]; exact hv
theorem zst (F : Nat → Nat) (a v : Nat) (h : a < 2 ^ 31) : upd (fun i => nI (F i)) (nI a).toNatClampNeg (nI v) = fun i => nI (va_up F a v i) := by rw [nI_clamp h]; exact zu F a v
theorem zsti (f : Nat → Int32) (a : Nat) (v : Int32) (h : a < 2 ^ 31) : upd f (nI a).toNatClampNeg v = upd f a v := by rw [nI_clamp h]
theorem z_max (a b : Nat) (ha : a < 2 ^ 31) (hb : b < 2 ^ 31) : (if nI a < nI b then nI b else nI a) = nI (max a b) := by
  by_cases h : a < b
  · rw [if_pos ((nI_ltI ha hb).mpr h)]; congr 1; omega
  · rw [if_neg (fun q => h ((nI_ltI ha hb).mp q))]; congr 1; omega
theorem z_min (a b : Nat) (ha : a < 2 ^ 31) (hb : b < 2 ^ 31) : (if nI b < nI a then nI b else nI a) = nI (min a b) := by
  by_cases h : b < a
  · rw [if_pos ((nI_ltI hb ha).mpr h)]; congr 1; omega
  · rw [if_neg (fun q => h ((nI_ltI hb ha).mp q))]; congr 1; omega
theorem z_sle {a b k : Nat} (ha : a < 2 ^ 30) (hb : b < 2 ^ 30) (hk : k < 2 ^ 30) : nI k ≤ nI a - nI b ↔ k + b ≤ a := by
  rw [Int32.le_iff_toInt_le, pk_sub_toInt ha hb, nI_toInt (by omega)]; omega
theorem z_sge {a b k : Nat} (ha : a < 2 ^ 30) (hb : b < 2 ^ 30) (hk : k < 2 ^ 30) : nI a - nI b ≤ nI k ↔ a ≤ k + b := by
  rw [Int32.le_iff_toInt_le, pk_sub_toInt ha hb, nI_toInt (by omega)]; omega
theorem zAt_n {F : Nat → Nat} {n k : Nat} (hk : k < n) (hn : n < 2 ^ 31) : zAt (fun i => nI (F i)) n (nI k) = nI (F k) := by
  rw [zAt, if_neg (nI_pos (by omega)), if_neg (nI_ge hk hn), nI_clamp (by omega)]
theorem z_p0 {D : va_G} {H : Heap} : va_P D vwCl [] H := fun k q h => by simp at h
theorem z_pf {D : va_G} {F T : va_W} {H : Heap} (h : va_P D vwCl (F ++ T) H) : va_P D vwCl F H := fun k q hk => h k q (by rw [List.getElem?_append_left (List.getElem?_eq_some_iff.mp hk).1]; exact hk)
theorem z_pp {D : va_G} {F T : va_W} {H : Heap} (h : va_P D vwCl (F ++ T) H) : va_P D vwCl T H := fun k q hk => h (F.length + k) q (by rw [List.getElem?_append_right (by omega), Nat.add_sub_cancel_left]; exact hk)
theorem z_p1 {D : va_G} {T : va_W} {H : Heap} (h : va_P D vwCl T H) {q : Nat × va_E} (hq : q ∈ T) : va_P D vwCl [q] H := by
  obtain ⟨j, hj⟩ := List.getElem?_of_mem hq
  intro k q' hk
  match k, hk with
  | 0, hk => cases hk; exact h j q hj
  | k + 1, hk => simp at hk
theorem z_slt {a b k : Nat} (ha : a < 2 ^ 30) (hb : b < 2 ^ 30) (hk : k < 2 ^ 30) : nI a - nI b < nI k ↔ a < k + b := by
  rw [Int32.lt_iff_toInt_lt, pk_sub_toInt ha hb, nI_toInt (by omega)]; omega
theorem z_sgt {a b k : Nat} (ha : a < 2 ^ 30) (hb : b < 2 ^ 30) (hk : k < 2 ^ 30) : nI k < nI a - nI b ↔ k + b < a := by
  rw [Int32.lt_iff_toInt_lt, pk_sub_toInt ha hb, nI_toInt (by omega)]; omega
theorem z_k5 {k : Nat} (h : k < 5) : k = 0 ∨ k = 1 ∨ k = 2 ∨ k = 3 ∨ k = 4 := by omega
def zKi : Nat → Nat | 0 => 6 | 1 => 7 | 2 => 1 | 3 => 3 | _ => 2
theorem z_clamp (a b : Nat) (ha : a < 2 ^ 30) (hb : b < 2 ^ 30) : (if 0 < (if nI a - nI b < 10 then nI a - nI b else 10) then (if nI a - nI b < 10 then nI a - nI b else 10) else 0) = nI (min 10 (a - b)) := by
  have e0 : (0 : Int32) = nI 0 := rfl
  have e10 : (10 : Int32) = nI 10 := rfl
  by_cases h : a < 10 + b
  · have h1 : nI a - nI b < 10 := by rw [e10]; exact (z_slt ha hb (by omega)).mpr h
    rw [if_pos h1]
    by_cases g : b < a
    · have g1 : 0 < nI a - nI b := by rw [e0]; exact (z_sgt ha hb (by omega)).mpr (by omega)
      rw [if_pos g1, pk_sub (by omega)]; congr 1; omega
    · have g1 : ¬ 0 < nI a - nI b := by rw [e0]; exact (not_congr (z_sgt ha hb (by omega))).mpr (by omega)
      rw [if_neg g1, e0]; congr 1; omega
  · have h1 : ¬ nI a - nI b < 10 := by rw [e10]; exact (not_congr (z_slt ha hb (by omega))).mpr h
    rw [if_neg h1]
    have g1 : (0 : Int32) < 10 := by decide
    rw [if_pos g1, e10]; congr 1; omega
theorem z_max0 (a b : Nat) (ha : a < 2 ^ 30) (hb : b < 2 ^ 30) : (if 0 < nI a - nI b then nI a - nI b else 0) = nI (a - b) := by
  have e0 : (0 : Int32) = nI 0 := rfl
  by_cases g : b < a
  · have g1 : 0 < nI a - nI b := by rw [e0]; exact (z_sgt ha hb (by omega)).mpr (by omega)
    rw [if_pos g1, pk_sub (by omega)]
  · have g1 : ¬ 0 < nI a - nI b := by rw [e0]; exact (not_congr (z_sgt ha hb (by omega))).mpr (by omega)
    rw [if_neg g1, e0]; congr 1; omega
def zSum (f : Nat → Int32) : Nat → Int32 | 0 => 0 | n + 1 => zSum f n + f n
theorem z_lne {z : Nat} (h : 0 < z) (h2 : z < 2 ^ 63) : ¬ lN z = 0 := fun e => by
  have := (pk_lEQ (a := z) (b := 0) h2 (by omega)).mp e
  omega
theorem z_sh : ∀ k, k < 32 → ((nI k &&& 31).toBitVec.smod 32).toNat = k := by decide +kernel
theorem z_shr {b k : Nat} (hb : b < 2 ^ 31) (hk : k < 32) : nI b >>> (nI k &&& 31) = nI (b / 2 ^ k) := pk_shrN hb _ k (z_sh k hk)
theorem z_and1 {b : Nat} (hb : b < 2 ^ 31) : nI b &&& 1 = nI (b % 2) := pk_andN (n := b) (by omega) 1 rfl
/-- the number's bit -/
def zHas (b k : Nat) : Prop := b / 2 ^ k % 2 = 1
theorem z_or : ∀ b, b < 32 → ∀ k, k < 5 → nI b ||| ((1 : Int32) <<< (nI k &&& 31)) = nI (b ||| 2 ^ k) := by decide +kernel
theorem z_or10 : ∀ k, k < 10 → ((1 : Int32) <<< (nI k &&& 31)) = nI (2 ^ k) := by decide +kernel
theorem z_land {n : Nat} (h : n < 2 ^ 63) : lN n &&& (2147483647 : Int64) = lN (n % 2 ^ 31) := by
  rw [← Int64.toBitVec_inj]
  have e1 : (lN n).toBitVec.toNat = n := by
    show (BitVec.ofNat 64 n).toNat = n
    rw [BitVec.toNat_ofNat]; omega
  have e2 : (lN (n % 2 ^ 31)).toBitVec.toNat = n % 2 ^ 31 := by
    show (BitVec.ofNat 64 (n % 2 ^ 31)).toNat = n % 2 ^ 31
    rw [BitVec.toNat_ofNat]; omega
  apply BitVec.eq_of_toNat_eq
  rw [Int64.toBitVec_and, BitVec.toNat_and, e1, e2]
  have e3 : (2147483647 : Int64).toBitVec.toNat = 2 ^ 31 - 1 := by decide
  rw [e3, Nat.and_two_pow_sub_one_eq_mod]
def zNext (x : Nat) : Nat := (1103515245 * x + 12345) % 2 ^ 31
/-- Euclid's steps, counted -/
def zEu (a b i x z : Nat) : Prop := Nat.gcd x z = Nat.gcd a b ∧ x < 2 ^ 62 ∧ z < 2 ^ 62 ∧ (i = 0 → x = a ∧ z = b) ∧ (1 ≤ i → z ≤ x ∧ x * z * 2 ^ (i - 1) ≤ b * b)
theorem zEu.start {a b : Nat} (ha : a < 2 ^ 62) (hb : b < 2 ^ 62) : zEu a b 0 a b := ⟨rfl, ha, hb, fun _ => ⟨rfl, rfl⟩, fun h => absurd h (by omega)⟩
theorem zEu.step {a b i x z : Nat} (h : zEu a b i x z) (hz : ¬ z = 0) : zEu a b (i + 1) z (x % z) := by
  obtain ⟨h1, h2, h3, h4, h5⟩ := h
  have hlt : x % z < z := Nat.mod_lt _ (by omega)
  refine ⟨?_, h3, by omega, fun q => absurd q (by omega), fun _ => ⟨by omega, ?_⟩⟩
  · rw [← h1, Nat.gcd_comm x z, Nat.gcd_comm z (x % z)]; exact (Nat.gcd_rec z x).symm
  · rw [Nat.add_sub_cancel]
    rcases Nat.eq_zero_or_pos i with e | e
    · subst e
      obtain ⟨e1, e2⟩ := h4 rfl
      subst e2
      simp only [Nat.pow_zero, Nat.mul_one]
      exact Nat.mul_le_mul_left _ (Nat.le_of_lt hlt)
    · obtain ⟨g1, g2⟩ := h5 e
      have hq : z * (x / z) + x % z = x := Nat.div_add_mod x z
      have hq1 : 1 ≤ x / z := (Nat.one_le_div_iff (by omega)).mpr g1
      have hq2 : z * 1 ≤ z * (x / z) := Nat.mul_le_mul_left _ hq1
      have hh : 2 * (x % z) ≤ x := by omega
      have hp : 2 ^ i = 2 * 2 ^ (i - 1) := by
        obtain ⟨j, rfl⟩ : ∃ j, i = j + 1 := ⟨i - 1, by omega⟩
        rw [Nat.add_sub_cancel, Nat.pow_succ, Nat.mul_comm]
      calc z * (x % z) * 2 ^ i = z * (2 * (x % z)) * 2 ^ (i - 1) := by rw [hp]; simp only [Nat.mul_assoc, Nat.mul_comm, Nat.mul_left_comm]
        _ ≤ z * x * 2 ^ (i - 1) := Nat.mul_le_mul_right _ (Nat.mul_le_mul_left _ hh)
        _ = x * z * 2 ^ (i - 1) := by rw [Nat.mul_comm z x]
        _ ≤ b * b := g2
theorem zEu.last {a b i x z : Nat} (h : zEu a b i x z) (hi : 100 ≤ i) (hb : b < 2 ^ 40) : z = 0 := by
  obtain ⟨-, -, -, -, h5⟩ := h
  obtain ⟨g1, g2⟩ := h5 (by omega)
  rcases Nat.eq_zero_or_pos z with e | e
  · exact e
  · exfalso
    have k1 : 1 * 1 ≤ x * z := Nat.mul_le_mul (by omega) e
    have k2 : 2 ^ 99 ≤ 2 ^ (i - 1) := Nat.pow_le_pow_right (by omega) (by omega)
    have k3 : 1 * 2 ^ 99 ≤ x * z * 2 ^ (i - 1) := Nat.mul_le_mul k1 k2
    have k4 : b * b ≤ 2 ^ 40 * 2 ^ 40 := Nat.mul_le_mul (by omega) (by omega)
    have k5 : (2 : Nat) ^ 40 * 2 ^ 40 < 1 * 2 ^ 99 := by decide
    omega
theorem zEu.gcd {a b i x : Nat} (h : zEu a b i x 0) : x = Nat.gcd a b := by rw [← h.1, Nat.gcd_zero_right]
theorem z_orn : ∀ b, b < 32 → ∀ k, k < 5 → nI b ||| nI (2 ^ k) = nI (b ||| 2 ^ k) := by decide +kernel
theorem z_Dext {A : Nat → Prop} {ws : va_W} {i a n : Nat} {cA : ClassId} {f g : Nat → Int32} (hD : va_D A ws) (hi : ws[i]? = some (a, .inl (cA, n, .inl f))) : va_D A (ws.set i (a, .inl (cA, n, .inl g))) := hD.set hi
theorem z_Pext {D : va_G} {ws : va_W} {i a n : Nat} {cA : ClassId} {f g : Nat → Int32} {H : Heap} (hP : va_P D vwCl ws H) (hi : ws[i]? = some (a, .inl (cA, n, .inl f))) (h : ∀ j, j < n → f j = g j) : va_P D vwCl (ws.set i (a, .inl (cA, n, .inl g))) H := by
  have e : vp_cell cA (n, .inl f) = vp_cell cA (n, .inl g) := by
    simp only [vp_cell, arrV]
    congr 1
    apply Array.ext
    · simp
    · intro j h1 h2
      simp at h1 h2 ⊢
      exact h j (by omega)
  intro k q hk
  by_cases hik : i = k
  · subst hik
    have hlt := (List.getElem?_eq_some_iff.mp hi).1
    rw [List.getElem?_set_self hlt] at hk
    cases hk
    have h1 : H[a]? = some (vp_cell cA (n, .inl f)) := hP i _ hi
    show H[a]? = some (vp_cell cA (n, .inl g))
    rw [← e]; exact h1
  · rw [List.getElem?_set_ne hik] at hk
    exact hP k q hk
theorem z_k3 {k : Nat} (h : k ≤ 2) : k = 0 ∨ k = 1 ∨ k = 2 := by omega
