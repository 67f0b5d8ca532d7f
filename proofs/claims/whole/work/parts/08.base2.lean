-- the heads of walks: the end Q is a variable, the returns are given
def zB (C : Prop) (r : Int32) : Prop := (r = 1 ∧ C) ∨ (r = 0 ∧ ¬ C)
theorem zB.t {C : Prop} (h : C) : zB C 1 := Or.inl ⟨rfl, h⟩
theorem zB.f {C : Prop} (h : ¬ C) : zB C 0 := Or.inr ⟨rfl, h⟩
section
variable {l : Launch} {D : va_G} {cI cB cP : ClassId} {y : MethodName} {ws ws' : List Cond} {rm : Room} {av : List Value} {RS : va_W} {cc : ByteArray} {maxL : Nat}
theorem zPi_of {post : Int32 → Prop} (hy : plainName y.cls = true) (hw : ws = Cond.code y cc maxL (some .int) :: ws') (hlen : (lg_sl av).length ≤ maxL)
    (body : ∀ (p : Program) (e : Env) (s : State) (m : MethodId) (args : Array Value) (below : List Frame) (meth : Method) (c : Code) (ls : Array Slot) (Q : State → Prop), p.tables.exec = Jvm.exec → c.code = cc → c.maxLocals = maxL → (∀ w ∈ ws, w.before args s = true) → s.vm.findClass y.cls = some m.cls → va_P D vwCl RS s.heap → va_K D vwCl (zT cI cB cP) s → zN s → lv_has ls maxL (lv_args 0 av) →
      (∀ (pc : Nat) (ls : Array Slot) (v : Int32), decode cc pc = .ok (.ireturn, 1) → post v → W p l e rm s m args below meth c s.heap [] 0 0 Q (F0 m pc ls [.int v])) → W p l e rm s m args below meth c s.heap [] 0 0 Q (F0 m 0 ls [])) : zPi l D cI cB cP y ws rm av RS post :=
  z_ofR hy hw hlen (fun p e s m args below meth c ls hx hb hml hr hts hown hlocks hP hK hN hl => body p e s m args below meth c ls _ hx hb hml hts hown hP hK hN hl (fun pc ls v hdg hp => z_iret hx hb hr hlocks hdg hp))
theorem zPz_of {post : Int32 → Prop} (hy : plainName y.cls = true) (hw : ws = Cond.code y cc maxL (some .boolean) :: ws') (hlen : (lg_sl av).length ≤ maxL)
    (body : ∀ (p : Program) (e : Env) (s : State) (m : MethodId) (args : Array Value) (below : List Frame) (meth : Method) (c : Code) (ls : Array Slot) (Q : State → Prop), p.tables.exec = Jvm.exec → c.code = cc → c.maxLocals = maxL → (∀ w ∈ ws, w.before args s = true) → s.vm.findClass y.cls = some m.cls → va_P D vwCl RS s.heap → va_K D vwCl (zT cI cB cP) s → zN s → lv_has ls maxL (lv_args 0 av) →
      (∀ (pc : Nat) (ls : Array Slot) (v : Int32), decode cc pc = .ok (.ireturn, 1) → narrow .boolean (.int v) = .int v → post v → W p l e rm s m args below meth c s.heap [] 0 0 Q (F0 m pc ls [.int v])) → W p l e rm s m args below meth c s.heap [] 0 0 Q (F0 m 0 ls [])) : zPi l D cI cB cP y ws rm av RS post :=
  z_ofR hy hw hlen (fun p e s m args below meth c ls hx hb hml hr hts hown hlocks hP hK hN hl => body p e s m args below meth c ls _ hx hb hml hts hown hP hK hN hl (fun pc ls v hdg hn hp => z_zret hx hb hr hlocks hn hdg hp))
theorem zPl_of {post : Int64 → Prop} (hy : plainName y.cls = true) (hw : ws = Cond.code y cc maxL (some .long) :: ws') (hlen : (lg_sl av).length ≤ maxL)
    (body : ∀ (p : Program) (e : Env) (s : State) (m : MethodId) (args : Array Value) (below : List Frame) (meth : Method) (c : Code) (ls : Array Slot) (Q : State → Prop), p.tables.exec = Jvm.exec → c.code = cc → c.maxLocals = maxL → (∀ w ∈ ws, w.before args s = true) → s.vm.findClass y.cls = some m.cls → va_P D vwCl RS s.heap → va_K D vwCl (zT cI cB cP) s → zN s → lv_has ls maxL (lv_args 0 av) →
      (∀ (pc : Nat) (ls : Array Slot) (v : Int64), decode cc pc = .ok (.lreturn, 1) → post v → W p l e rm s m args below meth c s.heap [] 0 0 Q (F0 m pc ls [.long v])) → W p l e rm s m args below meth c s.heap [] 0 0 Q (F0 m 0 ls [])) : zPl l D cI cB cP y ws rm av RS post :=
  z_ofR hy hw hlen (fun p e s m args below meth c ls hx hb hml hr hts hown hlocks hP hK hN hl => body p e s m args below meth c ls _ hx hb hml hts hown hP hK hN hl (fun pc ls v hdg hp => z_lret hx hb hr hlocks hdg hp))
theorem zPq_of {post : Option Nat → Prop} {C : String} (hy : plainName y.cls = true) (hw : ws = Cond.code y cc maxL (some (.object C)) :: ws') (hlen : (lg_sl av).length ≤ maxL)
    (body : ∀ (p : Program) (e : Env) (s : State) (m : MethodId) (args : Array Value) (below : List Frame) (meth : Method) (c : Code) (ls : Array Slot) (Q : State → Prop), p.tables.exec = Jvm.exec → c.code = cc → c.maxLocals = maxL → (∀ w ∈ ws, w.before args s = true) → s.vm.findClass y.cls = some m.cls → va_P D vwCl RS s.heap → va_K D vwCl (zT cI cB cP) s → zN s → lv_has ls maxL (lv_args 0 av) →
      (∀ (pc : Nat) (ls : Array Slot) (v : Option Nat), decode cc pc = .ok (.areturn, 1) → post v → W p l e rm s m args below meth c s.heap [] 0 0 Q (F0 m pc ls [va_rf v])) → W p l e rm s m args below meth c s.heap [] 0 0 Q (F0 m 0 ls [])) : zPq l D cI cB cP y ws rm av RS post :=
  z_ofR hy hw hlen (fun p e s m args below meth c ls hx hb hml hr hts hown hlocks hP hK hN hl => body p e s m args below meth c ls _ hx hb hml hts hown hP hK hN hl (fun pc ls v hdg hp => z_aret hx hb hr hlocks hdg hp))
end
section
variable {p : Program} {l : Launch} {e : Env} {R : Room} {s : State} {m : MethodId} {args : Array Value} {below : List Frame} {meth : Method} {c : Code} {H : Heap} {locs : List Loc} {cells slots : Nat} {Q : State → Prop} {pc : Nat} {ls : Array Slot} {rest st0 : List Value}
theorem z_top {x y : Int32} (h : x = y) (k : W p l e R s m args below meth c H locs cells slots Q (F0 m pc ls (.int y :: rest))) : W p l e R s m args below meth c H locs cells slots Q (F0 m pc ls (.int x :: rest)) := h ▸ k
theorem z_topl {x y : Int64} (h : x = y) (k : W p l e R s m args below meth c H locs cells slots Q (F0 m pc ls (.long y :: rest))) : W p l e R s m args below meth c H locs cells slots Q (F0 m pc ls (.long x :: rest)) := h ▸ k
end
-- numbers
theorem zu (f : Nat → Nat) (k v : Nat) : upd (fun i => nI (f i)) k (nI v) = fun i => nI (va_up f k v i) := by
  funext j
  by_cases h : j = k
  · subst h; simp [upd, va_up]
  · simp [upd, va_up, h]
def zFeels (k f : Nat) : Nat := if k = 1 then (if f < 5 then 0 else f) else if k = 2 then 9 - f else if k = 3 then f / 2 else if k = 4 then (if f < 5 then 0 else f) + 2 else f
def zTen (w k f h : Nat) : Nat := min 10 (w + zFeels k f - h)
def zFond (f : Nat) (st : Int32) (lim : Nat) : Nat := if st ≤ nI lim then min 9 (f + 1) else f - 2
def zBit (b k : Nat) : Prop := b / 2 ^ k % 2 = 1
def zAt (f : Nat → Int32) (n : Nat) (i : Int32) : Int32 := if i < 0 then 0 else if nI n ≤ i then 0 else f i.toNatClampNeg
theorem z_in {i : Int32} {n : Nat} (h1 : ¬ i < 0) (h2 : ¬ nI n ≤ i) (hn : n < 2 ^ 31) : vp_in i n := by
  rw [vp_in_iff]
  rw [Int32.lt_iff_toInt_lt] at h1
  rw [Int32.le_iff_toInt_le, nI_toInt hn] at h2
  have : (0 : Int32).toInt = 0 := rfl
  omega
theorem z_ld {f : Nat → Int32} {a : Nat} (h : a < 2 ^ 31) {v : Int32} (hv : f a = v) : f (nI a).toNatClampNeg = v := by rw [nI_clamp h]; exact hv
theorem zst (F : Nat → Nat) (a v : Nat) (h : a < 2 ^ 31) : upd (fun i => nI (F i)) (nI a).toNatClampNeg (nI v) = fun i => nI (va_up F a v i) := by rw [nI_clamp h]; exact zu F a v
theorem zsti (f : Nat → Int32) (a : Nat) (v : Int32) (h : a < 2 ^ 31) : upd f (nI a).toNatClampNeg v = upd f a v := by rw [nI_clamp h]
theorem z_max (a b : Nat) (ha : a < 2 ^ 31) (hb : b < 2 ^ 31) : (if nI a < nI b then nI b else nI a) = nI (max a b) := by
  by_cases h : a < b
  · rw [if_pos ((nI_ltI ha hb).mpr h)]; congr 1; omega
  · rw [if_neg (fun q => h ((nI_ltI ha hb).mp q))]; congr 1; omega
theorem z_min (a b : Nat) (ha : a < 2 ^ 31) (hb : b < 2 ^ 31) : (if nI b < nI a then nI b else nI a) = nI (min a b) := by
  by_cases h : b < a
  · rw [if_pos ((nI_ltI hb ha).mpr h)]; congr 1; omega
  · rw [if_neg (fun q => h ((nI_ltI hb ha).mp q))]; congr 1; omega
theorem z_sle {a b k : Nat} (ha : a < 2 ^ 30) (hb : b < 2 ^ 30) (hk : k < 2 ^ 30) : nI k ≤ nI a - nI b ↔ k + b ≤ a := by
  rw [Int32.le_iff_toInt_le, pk_sub_toInt ha hb, nI_toInt (by omega)]; omega
theorem z_sge {a b k : Nat} (ha : a < 2 ^ 30) (hb : b < 2 ^ 30) (hk : k < 2 ^ 30) : nI a - nI b ≤ nI k ↔ a ≤ k + b := by
  rw [Int32.le_iff_toInt_le, pk_sub_toInt ha hb, nI_toInt (by omega)]; omega
theorem zAt_n {F : Nat → Nat} {n k : Nat} (hk : k < n) (hn : n < 2 ^ 31) : zAt (fun i => nI (F i)) n (nI k) = nI (F k) := by
  rw [zAt, if_neg (nI_pos (by omega)), if_neg (nI_ge hk hn), nI_clamp (by omega)]
theorem z_p0 {D : va_G} {H : Heap} : va_P D vwCl [] H := fun k q h => by simp at h
theorem z_pf {D : va_G} {F T : va_W} {H : Heap} (h : va_P D vwCl (F ++ T) H) : va_P D vwCl F H := fun k q hk => h k q (by rw [List.getElem?_append_left (List.getElem?_eq_some_iff.mp hk).1]; exact hk)
theorem z_pp {D : va_G} {F T : va_W} {H : Heap} (h : va_P D vwCl (F ++ T) H) : va_P D vwCl T H := fun k q hk => h (F.length + k) q (by rw [List.getElem?_append_right (by omega), Nat.add_sub_cancel_left]; exact hk)
theorem z_p1 {D : va_G} {T : va_W} {H : Heap} (h : va_P D vwCl T H) {q : Nat × va_E} (hq : q ∈ T) : va_P D vwCl [q] H := by
  obtain ⟨j, hj⟩ := List.getElem?_of_mem hq
  intro k q' hk
  match k, hk with
  | 0, hk => cases hk; exact h j q hj
  | k + 1, hk => simp at hk
theorem z_slt {a b k : Nat} (ha : a < 2 ^ 30) (hb : b < 2 ^ 30) (hk : k < 2 ^ 30) : nI a - nI b < nI k ↔ a < k + b := by
  rw [Int32.lt_iff_toInt_lt, pk_sub_toInt ha hb, nI_toInt (by omega)]; omega
theorem z_sgt {a b k : Nat} (ha : a < 2 ^ 30) (hb : b < 2 ^ 30) (hk : k < 2 ^ 30) : nI k < nI a - nI b ↔ k + b < a := by
  rw [Int32.lt_iff_toInt_lt, pk_sub_toInt ha hb, nI_toInt (by omega)]; omega
