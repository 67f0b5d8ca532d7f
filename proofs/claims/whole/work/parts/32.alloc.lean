-- methods that make cells
def zVv {S : Type} (l : Launch) (D : va_G) (cI cB cP : ClassId) (y : MethodName) (ws : List Cond) (rm : Room) (av : List Value) (WS RS : va_W) (mc ms : Nat) (post : S → Prop) (WS' : S → va_W) : Prop := ∀ sz : Nat, Met l y ws rm (va_Pc av (zW D cI cB cP WS RS sz)) (va_Qv post (zE D WS sz WS') (va_A WS sz)) mc ms (va_A WS sz)
def zVi {S : Type} (l : Launch) (D : va_G) (cI cB cP : ClassId) (y : MethodName) (ws : List Cond) (rm : Room) (av : List Value) (WS RS : va_W) (mc ms : Nat) (post : Int32 → S → Prop) (WS' : S → va_W) : Prop := ∀ sz : Nat, Met l y ws rm (va_Pc av (zW D cI cB cP WS RS sz)) (va_Qi post (zE D WS sz WS') (va_A WS sz)) mc ms (va_A WS sz)
def zVr {S : Type} (l : Launch) (D : va_G) (cI cB cP : ClassId) (y : MethodName) (ws : List Cond) (rm : Room) (av : List Value) (WS RS : va_W) (mc ms : Nat) (post : S → Prop) (WS' : S → Nat → va_W) : Prop := ∀ sz : Nat, Met l y ws rm (va_Pc av (zW D cI cB cP WS RS sz)) (va_Qr post (fun u a t => va_P D vwCl (WS' u a) t.heap ∧ va_D (va_A WS sz) (WS' u a)) (va_A WS sz)) mc ms (va_A WS sz)
section
variable {S : Type} {l : Launch} {D : va_G} {cI cB cP : ClassId} {y : MethodName} {ws ws' : List Cond} {rm : Room} {av : List Value} {WS RS : va_W} {WS' : S → va_W} {WR : S → Nat → va_W} {cc : ByteArray} {maxL mc ms : Nat}
theorem zVv_of {post : S → Prop} (hy : plainName y.cls = true) (hw : ws = Cond.code y cc maxL none :: ws') (hlen : (lg_sl av).length ≤ maxL)
    (body : ∀ (p : Program) (e : Env) (s : State) (m : MethodId) (args : Array Value) (below : List Frame) (meth : Method) (c : Code) (ls : Array Slot) (Q : State → Prop) (A : Nat → Prop) (H : Heap) (locs : List Loc), p.tables.exec = Jvm.exec → c.code = cc → c.maxLocals = maxL → (∀ w ∈ ws, w.before args s = true) → s.vm.findClass y.cls = some m.cls → meth.name = y.name → va_P D vwCl WS H → va_D A WS → va_S A s.heap H locs → (∀ q : Nat, s.heap.size ≤ q → A q) → (∀ (H : Heap) (locs : List Loc), va_S A s.heap H locs → va_P D vwCl RS H) → (∀ q ∈ RS, ¬ A q.1) → va_K D vwCl (zT cI cB cP) s → zN s → lv_has ls maxL (lv_args 0 av) →
      (∀ (pc : Nat) (ls : Array Slot) (u : S) (H : Heap) (locs : List Loc), decode cc pc = .ok (.return_, 1) → post u → va_P D vwCl (WS' u) H → va_D A (WS' u) → va_S A s.heap H locs → W p l e rm s m args below meth c H locs mc ms Q (F0 m pc ls [])) → W p l e rm s m args below meth c H locs 0 0 Q (F0 m 0 ls [])) : zVv l D cI cB cP y ws rm av WS RS mc ms post WS' :=
  z_ofW hy hw hlen (fun p e s m args below meth c ls hx hb hml hr hts hn1 hn2 hown hlocks hP hD hR hRA hK hN hl => body p e s m args below meth c ls _ _ s.heap [] hx hb hml hts hown (name_of_methodNamed hn1 hn2).1 hP hD va_S.rf (fun _ h => Or.inr h) (fun _ _ hS => z_ro hR hRA hS) hRA hK hN hl
    (fun pc ls u H locs hdg hp hP' hD' hS => W.vret hx hb hr (fun t ht _ => ⟨⟨u, rfl, hp, by rw [ht]; exact hP', hD'⟩, hS.F ht⟩) hS.2.2 hdg (hlocks := hlocks)))
theorem zVi_of {post : Int32 → S → Prop} (hy : plainName y.cls = true) (hw : ws = Cond.code y cc maxL (some .int) :: ws') (hlen : (lg_sl av).length ≤ maxL)
    (body : ∀ (p : Program) (e : Env) (s : State) (m : MethodId) (args : Array Value) (below : List Frame) (meth : Method) (c : Code) (ls : Array Slot) (Q : State → Prop) (A : Nat → Prop) (H : Heap) (locs : List Loc), p.tables.exec = Jvm.exec → c.code = cc → c.maxLocals = maxL → (∀ w ∈ ws, w.before args s = true) → s.vm.findClass y.cls = some m.cls → meth.name = y.name → va_P D vwCl WS H → va_D A WS → va_S A s.heap H locs → (∀ q : Nat, s.heap.size ≤ q → A q) → (∀ (H : Heap) (locs : List Loc), va_S A s.heap H locs → va_P D vwCl RS H) → (∀ q ∈ RS, ¬ A q.1) → va_K D vwCl (zT cI cB cP) s → zN s → lv_has ls maxL (lv_args 0 av) →
      (∀ (pc : Nat) (ls : Array Slot) (v : Int32) (u : S) (H : Heap) (locs : List Loc), decode cc pc = .ok (.ireturn, 1) → post v u → va_P D vwCl (WS' u) H → va_D A (WS' u) → va_S A s.heap H locs → W p l e rm s m args below meth c H locs mc ms Q (F0 m pc ls [.int v])) → W p l e rm s m args below meth c H locs 0 0 Q (F0 m 0 ls [])) : zVi l D cI cB cP y ws rm av WS RS mc ms post WS' :=
  z_ofW hy hw hlen (fun p e s m args below meth c ls hx hb hml hr hts hn1 hn2 hown hlocks hP hD hR hRA hK hN hl => body p e s m args below meth c ls _ _ s.heap [] hx hb hml hts hown (name_of_methodNamed hn1 hn2).1 hP hD va_S.rf (fun _ h => Or.inr h) (fun _ _ hS => z_ro hR hRA hS) hRA hK hN hl
    (fun pc ls v u H locs hdg hp hP' hD' hS => W.iret hx hb hr (fun t ht _ => ⟨⟨v, u, rfl, hp, by rw [ht]; exact hP', hD'⟩, hS.F ht⟩) hS.2.2 hdg hlocks))
theorem zVr_of {post : S → Prop} {nm : String} (hy : plainName y.cls = true) (hw : ws = Cond.code y cc maxL (some (.object nm)) :: ws') (hlen : (lg_sl av).length ≤ maxL)
    (body : ∀ (p : Program) (e : Env) (s : State) (m : MethodId) (args : Array Value) (below : List Frame) (meth : Method) (c : Code) (ls : Array Slot) (Q : State → Prop) (A : Nat → Prop) (H : Heap) (locs : List Loc), p.tables.exec = Jvm.exec → c.code = cc → c.maxLocals = maxL → (∀ w ∈ ws, w.before args s = true) → s.vm.findClass y.cls = some m.cls → meth.name = y.name → va_P D vwCl WS H → va_D A WS → va_S A s.heap H locs → (∀ q : Nat, s.heap.size ≤ q → A q) → (∀ (H : Heap) (locs : List Loc), va_S A s.heap H locs → va_P D vwCl RS H) → (∀ q ∈ RS, ¬ A q.1) → va_K D vwCl (zT cI cB cP) s → zN s → lv_has ls maxL (lv_args 0 av) →
      (∀ (pc : Nat) (ls : Array Slot) (v : Nat) (u : S) (H : Heap) (locs : List Loc), decode cc pc = .ok (.areturn, 1) → post u → va_P D vwCl (WR u v) H → va_D A (WR u v) → va_S A s.heap H locs → W p l e rm s m args below meth c H locs mc ms Q (F0 m pc ls [.ref v])) → W p l e rm s m args below meth c H locs 0 0 Q (F0 m 0 ls [])) : zVr l D cI cB cP y ws rm av WS RS mc ms post WR :=
  z_ofW hy hw hlen (fun p e s m args below meth c ls hx hb hml hr hts hn1 hn2 hown hlocks hP hD hR hRA hK hN hl => body p e s m args below meth c ls _ _ s.heap [] hx hb hml hts hown (name_of_methodNamed hn1 hn2).1 hP hD va_S.rf (fun _ h => Or.inr h) (fun _ _ hS => z_ro hR hRA hS) hRA hK hN hl
    (fun pc ls v u H locs hdg hp hP' hD' hS => W.aret hx hb hr (Or.inl ⟨_, rfl⟩) (Or.inr ⟨v, rfl⟩) (fun t ht _ => ⟨⟨u, v, rfl, hp, by rw [ht]; exact hP', hD'⟩, hS.F ht⟩) hS.2.2 hdg hlocks))
end
section
variable {S : Type} {p : Program} {l : Launch} {e : Env} {R : Room} {s : State} {m : MethodId} {args : Array Value} {below : List Frame} {meth : Method} {c : Code} {H H0 : Heap} {locs : List Loc} {cells slots mc ms : Nat} {Q : State → Prop} {pc : Nat} {ls : Array Slot} {rest st0 : List Value} {a : Array Value} {D : va_G} {A : Nat → Prop} {F WC wr : va_W} {WC' : S → va_W} {WR : S → Nat → va_W}
theorem z_av {post : S → Prop} (hr : va_Run p l e R s m args below meth c H locs cells slots mc ms (F0 m pc ls st0) rest (va_Qv post (zE D WC H.size WC') (va_A WC H.size) a) (va_A WC H.size)) (hP : va_P D vwCl F H) (hD : va_D A F) (hS : va_S A H0 H locs) (hA : ∀ q : Nat, H0.size ≤ q → A q) (isC isR : List Nat) (hC : isC.map (fun i => F[i]?) = WC.map some) (hR : isR.map (fun i => F[i]?) = wr.map some) (hn : va_nd isR = true) (hdis : ∀ i ∈ isR, i ∉ isC)
    (kk : ∀ (u : S) (H1 : Heap) (locs1 : List Loc), post u → va_P D vwCl (wr ++ WC' u) H1 → va_D A (wr ++ WC' u) → va_S A H0 H1 locs1 → W p l e R s m args below meth c H1 locs1 (cells + mc) (slots + ms) Q (F0 m (pc + 3) ls rest)) : W p l e R s m args below meth c H locs cells slots Q (F0 m pc ls st0) := by
  have hFc := va_free (wc := WC) hD hS hA isC hC
  refine va_callv hr hS (fun q _ h => hFc q h) hFc (fun u t H1 locs1 ht _ hp hB _ hk hS1 => ?_)
  obtain ⟨hP1, hD1⟩ := hB
  rw [ht] at hP1
  obtain ⟨g1, g2⟩ := va_join hP hD isC isR hC hR hn hdis hk hFc hP1 hD1
  exact kk u H1 locs1 hp g1 g2 hS1
theorem z_ar {post : S → Prop} (hr : va_Run p l e R s m args below meth c H locs cells slots mc ms (F0 m pc ls st0) rest (va_Qr post (fun u a t => va_P D vwCl (WR u a) t.heap ∧ va_D (va_A WC H.size) (WR u a)) (va_A WC H.size) a) (va_A WC H.size)) (hP : va_P D vwCl F H) (hD : va_D A F) (hS : va_S A H0 H locs) (hA : ∀ q : Nat, H0.size ≤ q → A q) (isC isR : List Nat) (hC : isC.map (fun i => F[i]?) = WC.map some) (hR : isR.map (fun i => F[i]?) = wr.map some) (hn : va_nd isR = true) (hdis : ∀ i ∈ isR, i ∉ isC)
    (kk : ∀ (u : S) (v : Nat) (H1 : Heap) (locs1 : List Loc), post u → va_P D vwCl (wr ++ WR u v) H1 → va_D A (wr ++ WR u v) → va_S A H0 H1 locs1 → W p l e R s m args below meth c H1 locs1 (cells + mc) (slots + ms) Q (F0 m (pc + 3) ls (.ref v :: rest))) : W p l e R s m args below meth c H locs cells slots Q (F0 m pc ls st0) := by
  have hFc := va_free (wc := WC) hD hS hA isC hC
  refine va_callr hr hS (fun q _ h => hFc q h) hFc (fun u ra t H1 locs1 ht _ hp hB _ hk hS1 => ?_)
  obtain ⟨hP1, hD1⟩ := hB
  rw [ht] at hP1
  obtain ⟨g1, g2⟩ := va_join hP hD isC isR hC hR hn hdis hk hFc hP1 hD1
  exact kk u ra H1 locs1 hp g1 g2 hS1
variable {cI cB cP : ClassId} {y : MethodName} {bytes cc : ByteArray} {maxL nL n index : Nat} {ret : Option FieldType} {ws ws' : List Cond} {fr lo : Nat} {Qc : Nat → Array Value → State → Outcome → State → Prop} {Ts : List Cond} {own C host : String} {b : Addr} {As : List Value} {RC : va_W} {ci : Nat} {fs : List Value} {T : u_T} {N : Nat}
theorem z_wrunI
    (hx : p.tables.exec = Jvm.exec) (hb : c.code = cc) (hml : c.maxLocals = nL) (hown : s.vm.findClass own = some m.cls) (hts : ∀ w ∈ Ts, w.before args s = true) (hK : va_K D vwCl (zT cI cB cP) s) (hN : zN s) (hlz : ls.size = nL)
    (hM : ∀ sz : Nat, Met l y ws { frames := fr, cells := mc, slots := ms, locals := lo } (va_Pc (.ref b :: As) (zW D cI cB cP WC RC sz)) (Qc sz) mc ms (va_A WC sz)) (hG : GoodIn Ts ws) (hw : ws = Cond.code y bytes maxL none :: ws') (hini : Cond.initialized y.cls ∈ Ts) (hlk : Cond.methodLink own index y ∈ Ts) (hins : Cond.instanceMethod y ∈ Ts) (hy1 : y.name = "<init>")
    (hd : y.cls ≠ "java/lang/invoke/MethodHandle" ∧ y.cls ≠ "java/lang/invoke/VarHandle" ∧ (parseMethodDescriptor y.desc).map (fun d => d.parameters.length) = some n) (hn : As.length = n) (hR1 : fr + 1 ≤ R.frames) (hR2 : 8 + (maxL + 11) + lo ≤ R.locals)
    (hP : va_P D vwCl WC H) (hD : va_D A WC) (hR : va_P D vwCl RC H) (hA : ∀ q ∈ RC, ¬ va_A WC H.size q.1) (hst : st0 = As.reverse ++ .ref b :: rest) (hW : (rest.map fun v => v.category).sum ≤ 8) (hdg : decode cc pc = .ok (.invokespecial index, 3)) (hf : cells + mc ≤ R.cells ∧ slots + ms ≤ R.slots) :
    va_Run p l e R s m args below meth c H locs cells slots mc ms (F0 m pc ls st0) rest (Qc H.size (Value.ref b :: As).toArray) (va_A WC H.size) :=
  va_runI ⟨hx, hb, hml, hown, hts⟩ (hM H.size) (cwI n hts hG hw rfl rfl (hts _ hini) (hts _ hlk) (hts _ hins) hy1 hd ⟨hR1, hR2⟩) ⟨zW_blind, zW_pre hP hD hR hA hK hN⟩ rfl hn hlz hst (lv_room hW) hdg hf
theorem z_wrunIN
    (hx : p.tables.exec = Jvm.exec) (hb : c.code = cc) (hml : c.maxLocals = nL) (hown : s.vm.findClass own = some m.cls) (hts : ∀ w ∈ Ts, w.before args s = true) (hK : va_K D vwCl (zT cI cB cP) s) (hN : zN s) (hlz : ls.size = nL)
    (hM : ∀ sz : Nat, Met l y ws { frames := fr, cells := mc, slots := ms, locals := lo } (va_Pc (.ref b :: As) (zW D cI cB cP WC RC sz)) (Qc sz) mc ms (va_A WC sz)) (hG : GoodIn Ts ws) (hw : ws = Cond.code y bytes maxL none :: ws') (k : Nat) (hk : zNW[k]? = some (.methodLinkNest own index y host)) (hini : Cond.initialized y.cls ∈ Ts) (hins : Cond.instanceMethod y ∈ Ts) (hy1 : y.name = "<init>")
    (hd : y.cls ≠ "java/lang/invoke/MethodHandle" ∧ y.cls ≠ "java/lang/invoke/VarHandle" ∧ (parseMethodDescriptor y.desc).map (fun d => d.parameters.length) = some n) (hn : As.length = n) (hR1 : fr + 1 ≤ R.frames) (hR2 : 8 + (maxL + 11) + lo ≤ R.locals)
    (hP : va_P D vwCl WC H) (hD : va_D A WC) (hR : va_P D vwCl RC H) (hA : ∀ q ∈ RC, ¬ va_A WC H.size q.1) (hst : st0 = As.reverse ++ .ref b :: rest) (hW : (rest.map fun v => v.category).sum ≤ 8) (hdg : decode cc pc = .ok (.invokespecial index, 3)) (hf : cells + mc ≤ R.cells ∧ slots + ms ≤ R.slots) :
    va_Run p l e R s m args below meth c H locs cells slots mc ms (F0 m pc ls st0) rest (Qc H.size (Value.ref b :: As).toArray) (va_A WC H.size) :=
  va_runIN (host := host) ⟨hx, hb, hml, hown, hts⟩ (hM H.size) ⟨va_cnB n hts hG hw rfl rfl (hN.n k hk) (hts _ hini) hd ⟨hR1, hR2⟩, hy1, hts _ hins⟩ ⟨zW_blind, zW_pre hP hD hR hA hK hN⟩ rfl hn hlz hst (lv_room hW) hdg hf
theorem z_wrunSa
    (hx : p.tables.exec = Jvm.exec) (hb : c.code = cc) (hml : c.maxLocals = nL) (hown : s.vm.findClass own = some m.cls) (hts : ∀ w ∈ Ts, w.before args s = true) (hK : va_K D vwCl (zT cI cB cP) s) (hN : zN s) (hlz : ls.size = nL)
    (hM : ∀ sz : Nat, Met l y ws { frames := fr, cells := mc, slots := ms, locals := lo } (va_Pc As (zW D cI cB cP WC RC sz)) (Qc sz) mc ms (va_A WC sz)) (hG : GoodIn Ts (va_wsS own index y ws)) (hw : ws = Cond.code y bytes maxL ret :: ws')
    (hd : y.cls ≠ "java/lang/invoke/MethodHandle" ∧ y.cls ≠ "java/lang/invoke/VarHandle" ∧ (parseMethodDescriptor y.desc).map (fun d => d.parameters.length) = some n) (hn : As.length = n) (hR1 : fr + 1 ≤ R.frames) (hR2 : 8 + (maxL + 11) + lo ≤ R.locals)
    (hP : va_P D vwCl WC H) (hD : va_D A WC) (hR : va_P D vwCl RC H) (hA : ∀ q ∈ RC, ¬ va_A WC H.size q.1) (hst : st0 = As.reverse ++ rest) (hW : (rest.map fun v => v.category).sum ≤ 8) (hdg : decode cc pc = .ok (.invokestatic index, 3)) (hf : cells + mc ≤ R.cells ∧ slots + ms ≤ R.slots) :
    va_Run p l e R s m args below meth c H locs cells slots mc ms (F0 m pc ls st0) rest (Qc H.size As.toArray) (va_A WC H.size) :=
  va_runS ⟨hx, hb, hml, hown, hts⟩ (hM H.size) (va_cwS n hts hG hw rfl rfl hd ⟨hR1, hR2⟩) ⟨zW_blind, zW_pre hP hD hR hA hK hN⟩ rfl hn hlz hst (lv_room hW) hdg hf
theorem z_cI {k : Nat} {cA cX : ClassId} {tys : List (ClassId × FieldType)} {ty : FieldType} {S1 : String} (hK : va_K D vwCl tys s) (hK1 : va_K D vwCl (tys ++ [(cA, ty)]) s) (hk : tys[k]? = some (cX, ty)) (hS1 : ∀ c, va_RA s c ty → s.vm.findClass S1 = some c) : cA = cX := by
  have h1 := hS1 _ (hK.2 k _ hk).2
  have h2 := hS1 _ (hK1.2 tys.length (cA, ty) (by rw [List.getElem?_append_right (Nat.le_refl _), Nat.sub_self]; rfl)).2
  exact Option.some.inj (h2.symm.trans h1)
theorem z_newa {cc : ByteArray} (hexec : p.tables.exec = Jvm.exec) (hb : c.code = cc) (harr : (Cond.arrayClass .int).before args s = true) (hK : va_K D vwCl (zT cI cB cP) s) (hP : va_P D vwCl F H) (hD : va_D A F) (hS : va_S A H0 H locs) (hA : ∀ q, H0.size ≤ q → A q)
    {n : Int32} {N' : Nat} (hn : ¬ n < 0) (hN : n.toNatClampNeg = N') (hbytes : N' * 4 ≤ 536870912) (hcells : cells + 1 ≤ R.cells) (hslots : slots + N' ≤ R.slots) (hdg : decode cc pc = .ok (.newarray .int, 2))
    (kk : ∀ (q : Nat) (H1 : Heap), va_P D vwCl (F ++ [(q, .inl (cI, N', .inl (fun q_ => nI ((fun _ => 0) q_))))]) H1 → va_D A (F ++ [(q, .inl (cI, N', .inl (fun q_ => nI ((fun _ => 0) q_))))]) → va_S A H0 H1 locs →
      W p l e R s m args below meth c H1 locs (cells + 1) (slots + N') Q (F0 m (pc + 2) ls (.ref q :: rest))) : W p l e R s m args below meth c H locs cells slots Q (F0 m pc ls (.int n :: rest)) := by
  refine va_newa (atype := .int) (a0 := (N', .inl (fun q_ => nI ((fun _ => 0) q_)))) hexec hb harr rfl hK hP hD hS hA (fun _ => rfl) hn hN hbytes hcells hslots hdg (fun q cA H1 hK1 hP1 hD1 hS1 => ?_)
  have e : cA = cI := z_cI (k := 0) (ty := .int) (S1 := "[" ++ FieldType.int.toString) hK hK1 rfl (fun c h => h)
  subst e
  exact kk q H1 hP1 hD1 hS1
theorem z_newb {cc : ByteArray} (hexec : p.tables.exec = Jvm.exec) (hb : c.code = cc) (harr : (Cond.arrayClass .byte).before args s = true) (hK : va_K D vwCl (zT cI cB cP) s) (hP : va_P D vwCl F H) (hD : va_D A F) (hS : va_S A H0 H locs) (hA : ∀ q, H0.size ≤ q → A q)
    {n : Int32} {N' : Nat} (hn : ¬ n < 0) (hN : n.toNatClampNeg = N') (hbytes : N' * 1 ≤ 536870912) (hcells : cells + 1 ≤ R.cells) (hslots : slots + N' ≤ R.slots) (hdg : decode cc pc = .ok (.newarray .byte, 2))
    (kk : ∀ (q : Nat) (H1 : Heap), va_P D vwCl (F ++ [(q, .inl (cB, N', .inl (fun q_ => nI ((fun _ => 0) q_))))]) H1 → va_D A (F ++ [(q, .inl (cB, N', .inl (fun q_ => nI ((fun _ => 0) q_))))]) → va_S A H0 H1 locs →
      W p l e R s m args below meth c H1 locs (cells + 1) (slots + N') Q (F0 m (pc + 2) ls (.ref q :: rest))) : W p l e R s m args below meth c H locs cells slots Q (F0 m pc ls (.int n :: rest)) := by
  refine va_newa (atype := .byte) (a0 := (N', .inl (fun q_ => nI ((fun _ => 0) q_)))) hexec hb harr rfl hK hP hD hS hA (fun _ => rfl) hn hN hbytes hcells hslots hdg (fun q cA H1 hK1 hP1 hD1 hS1 => ?_)
  have e : cA = cB := z_cI (k := 1) (ty := .byte) (S1 := "[" ++ FieldType.byte.toString) hK hK1 rfl (fun c h => h)
  subst e
  exact kk q H1 hP1 hD1 hS1
theorem z_newq {cc : ByteArray} {own : String} {index : Nat} (hexec : p.tables.exec = Jvm.exec) (hb : c.code = cc) (hown : s.vm.findClass own = some m.cls) (hclink : (Cond.classLink own index "BeatenInstead$Prince").before args s = true) (hN0 : zN s) (hK : va_K D vwCl (zT cI cB cP) s) (hP : va_P D vwCl F H) (hD : va_D A F) (hS : va_S A H0 H locs) (hA : ∀ q, H0.size ≤ q → A q)
    {n : Int32} {N' : Nat} (hn : ¬ n < 0) (hN : n.toNatClampNeg = N') (hbytes : N' * 4 ≤ 536870912) (hcells : cells + 1 ≤ R.cells) (hslots : slots + N' ≤ R.slots) (hdg : decode cc pc = .ok (.anewarray index, 3))
    (kk : ∀ (q : Nat) (H1 : Heap), va_P D vwCl (F ++ [(q, .inl (cP, N', .inr (.inr (.inr (.inr (fun _ => none))))))]) H1 → va_D A (F ++ [(q, .inl (cP, N', .inr (.inr (.inr (.inr (fun _ => none))))))]) → va_S A H0 H1 locs →
      W p l e R s m args below meth c H1 locs (cells + 1) (slots + N') Q (F0 m (pc + 3) ls (.ref q :: rest))) : W p l e R s m args below meth c H locs cells slots Q (F0 m pc ls (.int n :: rest)) := by
  refine va_newq hexec hb hown hclink hN0.2.2 hK hP hD hS hA hn hN hbytes hcells hslots hdg (fun q cA H1 hK1 hP1 hD1 hS1 => ?_)
  have e : cA = cP := z_cI (k := 2) (ty := .object "BeatenInstead$Prince") (S1 := "[" ++ (FieldType.object "BeatenInstead$Prince").toString) hK hK1 rfl (fun c h => by obtain ⟨_, _, _, _, _, h⟩ := h; exact h)
  subst e
  exact kk q H1 hP1 hD1 hS1
end
theorem zi_X6_init_X6 : ∀ w ∈ wsX60, w ∈ wsX6_init := fun _ h => List.mem_cons_of_mem _ (List.mem_append_left _ (List.mem_append_right _ (h)))
abbrev rm_X6_init_X6 : Room := { frames := 1, cells := 0, slots := 0, locals := 12 }
set_option maxHeartbeats 4000000 in
set_option maxRecDepth 100000 in
theorem c_X6_init_X6 (l : Launch) (D : va_G) (cI cB cP : ClassId) (h0 : Nat) (wit : Nat)   : zVv (S := Unit) l D cI cB cP yX6_init wsX6_init rm_X6_init_X6 [.ref h0, .int (nI wit)] [(h0, .inr (6, [.int 0]))] ([]) 0 0 (fun _ => True) (fun u => [(h0, .inr (6, [.int (nI wit)]))]) := by
  refine zVv_of (cc := cX6_init) (maxL := 2) (by decide) rfl (Nat.le_of_ble_eq_true rfl) ?_
  intro p e s m args below meth c ls Q A H locs hx hb hml hts hown hin hP hD hS hA hRk hRA hK hN hl hret
  have hin : meth.name = "<init>" := hin
  have hown : s.vm.findClass RX6 = some m.cls := hown
  have hl : lv_has ls 2 [(0, .ref h0), (1, .int (nI wit))] := hl
  refine lv_aload_n hx hb dX6_init_0 rfl (lv_at hl 0 rfl) ?_
  refine W.objInit hx hb hown (hts (.methodLink RX6 3 objectInit) (List.mem_of_getElem? (i := 1) rfl)) (hts (.instanceMethod objectInit) (List.mem_of_getElem? (i := 2) rfl)) (hts _ (List.mem_of_getElem? (i := 3) rfl)) rfl (by rw [hml]; exact hl.1) rfl dX6_init_1 (Nat.le_of_ble_eq_true rfl) (Nat.le_of_ble_eq_true rfl) ?_
  refine W.eq (g2 := F0 m 4 ls []) rfl ?_
  refine lv_aload_n hx hb dX6_init_4 rfl (lv_at hl 0 rfl) ?_
  refine lv_iload_n hx hb dX6_init_5 rfl (lv_at hl 1 rfl) ?_
  refine va_putF (D := D) (ci := 6) (v := .int (nI wit)) (ty := .int) (C := RX6) (T := TX6) (N := 1) hx hb hts zi_X6_init_X6 tyX6 tyX6_ok nmX6 hown hK hP hD hS 0 rfl rfl 0 (by decide) (hts (.fieldLink RX6 9 "BeatenInstead$Prince" "wit" "I") (List.mem_of_getElem? (i := 4) rfl)) (fun _ h9 => h9) rfl hin rfl rfl rfl rfl (Nat.le_of_ble_eq_true rfl) dX6_init_6 (fun H locs hP hD hS => ?_)
  have hP : va_P D vwCl [(h0, .inr (6, [.int (nI wit)]))] H := hP
  have hD : va_D A [(h0, .inr (6, [.int (nI wit)]))] := hD
  exact hret _ _ (()) _ _ dX6_init_9 trivial hP hD hS

theorem zi_X6_init_X7 : ∀ w ∈ wsX70, w ∈ wsX6_init := fun _ h => List.mem_cons_of_mem _ (List.mem_append_right _ (h))
abbrev rm_X6_init_X7 : Room := { frames := 1, cells := 0, slots := 0, locals := 12 }
set_option maxHeartbeats 4000000 in
set_option maxRecDepth 100000 in
theorem c_X6_init_X7 (l : Launch) (D : va_G) (cI cB cP : ClassId) (h0 : Nat) (wit : Nat)   : zVv (S := Unit) l D cI cB cP yX6_init wsX6_init rm_X6_init_X7 [.ref h0, .int (nI wit)] [(h0, .inr (7, [.int 0]))] ([]) 0 0 (fun _ => True) (fun u => [(h0, .inr (7, [.int (nI wit)]))]) := by
  refine zVv_of (cc := cX6_init) (maxL := 2) (by decide) rfl (Nat.le_of_ble_eq_true rfl) ?_
  intro p e s m args below meth c ls Q A H locs hx hb hml hts hown hin hP hD hS hA hRk hRA hK hN hl hret
  have hin : meth.name = "<init>" := hin
  have hown : s.vm.findClass RX6 = some m.cls := hown
  have hl : lv_has ls 2 [(0, .ref h0), (1, .int (nI wit))] := hl
  refine lv_aload_n hx hb dX6_init_0 rfl (lv_at hl 0 rfl) ?_
  refine W.objInit hx hb hown (hts (.methodLink RX6 3 objectInit) (List.mem_of_getElem? (i := 1) rfl)) (hts (.instanceMethod objectInit) (List.mem_of_getElem? (i := 2) rfl)) (hts _ (List.mem_of_getElem? (i := 3) rfl)) rfl (by rw [hml]; exact hl.1) rfl dX6_init_1 (Nat.le_of_ble_eq_true rfl) (Nat.le_of_ble_eq_true rfl) ?_
  refine W.eq (g2 := F0 m 4 ls []) rfl ?_
  refine lv_aload_n hx hb dX6_init_4 rfl (lv_at hl 0 rfl) ?_
  refine lv_iload_n hx hb dX6_init_5 rfl (lv_at hl 1 rfl) ?_
  refine va_putF (D := D) (ci := 7) (v := .int (nI wit)) (ty := .int) (C := RX7) (T := TX7) (N := 1) hx hb hts zi_X6_init_X7 tyX7 tyX7_ok nmX7 hown hK hP hD hS 0 rfl rfl 0 (by decide) (hts (.fieldLink RX6 9 "BeatenInstead$Prince" "wit" "I") (List.mem_of_getElem? (i := 4) rfl)) (fun _ h9 => h9) rfl hin rfl rfl rfl rfl (Nat.le_of_ble_eq_true rfl) dX6_init_6 (fun H locs hP hD hS => ?_)
  have hP : va_P D vwCl [(h0, .inr (7, [.int (nI wit)]))] H := hP
  have hD : va_D A [(h0, .inr (7, [.int (nI wit)]))] := hD
  exact hret _ _ (()) _ _ dX6_init_9 trivial hP hD hS

theorem zi_X6_init_X1 : ∀ w ∈ wsX10, w ∈ wsX6_init := fun _ h => List.mem_cons_of_mem _ (List.mem_append_left _ (List.mem_append_left _ (List.mem_append_left _ (List.mem_append_left _ (List.mem_append_right _ (h))))))
abbrev rm_X6_init_X1 : Room := { frames := 1, cells := 0, slots := 0, locals := 12 }
set_option maxHeartbeats 4000000 in
set_option maxRecDepth 100000 in
theorem c_X6_init_X1 (l : Launch) (D : va_G) (cI cB cP : ClassId) (h0 : Nat) (wit : Nat)   : zVv (S := Unit) l D cI cB cP yX6_init wsX6_init rm_X6_init_X1 [.ref h0, .int (nI wit)] [(h0, .inr (1, [.int 0]))] ([]) 0 0 (fun _ => True) (fun u => [(h0, .inr (1, [.int (nI wit)]))]) := by
  refine zVv_of (cc := cX6_init) (maxL := 2) (by decide) rfl (Nat.le_of_ble_eq_true rfl) ?_
  intro p e s m args below meth c ls Q A H locs hx hb hml hts hown hin hP hD hS hA hRk hRA hK hN hl hret
  have hin : meth.name = "<init>" := hin
  have hown : s.vm.findClass RX6 = some m.cls := hown
  have hl : lv_has ls 2 [(0, .ref h0), (1, .int (nI wit))] := hl
  refine lv_aload_n hx hb dX6_init_0 rfl (lv_at hl 0 rfl) ?_
  refine W.objInit hx hb hown (hts (.methodLink RX6 3 objectInit) (List.mem_of_getElem? (i := 1) rfl)) (hts (.instanceMethod objectInit) (List.mem_of_getElem? (i := 2) rfl)) (hts _ (List.mem_of_getElem? (i := 3) rfl)) rfl (by rw [hml]; exact hl.1) rfl dX6_init_1 (Nat.le_of_ble_eq_true rfl) (Nat.le_of_ble_eq_true rfl) ?_
  refine W.eq (g2 := F0 m 4 ls []) rfl ?_
  refine lv_aload_n hx hb dX6_init_4 rfl (lv_at hl 0 rfl) ?_
  refine lv_iload_n hx hb dX6_init_5 rfl (lv_at hl 1 rfl) ?_
  refine va_putF (D := D) (ci := 1) (v := .int (nI wit)) (ty := .int) (C := RX1) (T := TX1) (N := 1) hx hb hts zi_X6_init_X1 tyX1 tyX1_ok nmX1 hown hK hP hD hS 0 rfl rfl 0 (by decide) (hts (.fieldLink RX6 9 "BeatenInstead$Prince" "wit" "I") (List.mem_of_getElem? (i := 4) rfl)) (fun _ h9 => h9) rfl hin rfl rfl rfl rfl (Nat.le_of_ble_eq_true rfl) dX6_init_6 (fun H locs hP hD hS => ?_)
  have hP : va_P D vwCl [(h0, .inr (1, [.int (nI wit)]))] H := hP
  have hD : va_D A [(h0, .inr (1, [.int (nI wit)]))] := hD
  exact hret _ _ (()) _ _ dX6_init_9 trivial hP hD hS

theorem zi_X6_init_X3 : ∀ w ∈ wsX30, w ∈ wsX6_init := fun _ h => List.mem_cons_of_mem _ (List.mem_append_left _ (List.mem_append_left _ (List.mem_append_right _ (h))))
abbrev rm_X6_init_X3 : Room := { frames := 1, cells := 0, slots := 0, locals := 12 }
set_option maxHeartbeats 4000000 in
set_option maxRecDepth 100000 in
theorem c_X6_init_X3 (l : Launch) (D : va_G) (cI cB cP : ClassId) (h0 : Nat) (wit : Nat)   : zVv (S := Unit) l D cI cB cP yX6_init wsX6_init rm_X6_init_X3 [.ref h0, .int (nI wit)] [(h0, .inr (3, [.int 0]))] ([]) 0 0 (fun _ => True) (fun u => [(h0, .inr (3, [.int (nI wit)]))]) := by
  refine zVv_of (cc := cX6_init) (maxL := 2) (by decide) rfl (Nat.le_of_ble_eq_true rfl) ?_
  intro p e s m args below meth c ls Q A H locs hx hb hml hts hown hin hP hD hS hA hRk hRA hK hN hl hret
  have hin : meth.name = "<init>" := hin
  have hown : s.vm.findClass RX6 = some m.cls := hown
  have hl : lv_has ls 2 [(0, .ref h0), (1, .int (nI wit))] := hl
  refine lv_aload_n hx hb dX6_init_0 rfl (lv_at hl 0 rfl) ?_
  refine W.objInit hx hb hown (hts (.methodLink RX6 3 objectInit) (List.mem_of_getElem? (i := 1) rfl)) (hts (.instanceMethod objectInit) (List.mem_of_getElem? (i := 2) rfl)) (hts _ (List.mem_of_getElem? (i := 3) rfl)) rfl (by rw [hml]; exact hl.1) rfl dX6_init_1 (Nat.le_of_ble_eq_true rfl) (Nat.le_of_ble_eq_true rfl) ?_
  refine W.eq (g2 := F0 m 4 ls []) rfl ?_
  refine lv_aload_n hx hb dX6_init_4 rfl (lv_at hl 0 rfl) ?_
  refine lv_iload_n hx hb dX6_init_5 rfl (lv_at hl 1 rfl) ?_
  refine va_putF (D := D) (ci := 3) (v := .int (nI wit)) (ty := .int) (C := RX3) (T := TX3) (N := 1) hx hb hts zi_X6_init_X3 tyX3 tyX3_ok nmX3 hown hK hP hD hS 0 rfl rfl 0 (by decide) (hts (.fieldLink RX6 9 "BeatenInstead$Prince" "wit" "I") (List.mem_of_getElem? (i := 4) rfl)) (fun _ h9 => h9) rfl hin rfl rfl rfl rfl (Nat.le_of_ble_eq_true rfl) dX6_init_6 (fun H locs hP hD hS => ?_)
  have hP : va_P D vwCl [(h0, .inr (3, [.int (nI wit)]))] H := hP
  have hD : va_D A [(h0, .inr (3, [.int (nI wit)]))] := hD
  exact hret _ _ (()) _ _ dX6_init_9 trivial hP hD hS

theorem zi_X6_init_X2 : ∀ w ∈ wsX20, w ∈ wsX6_init := fun _ h => List.mem_cons_of_mem _ (List.mem_append_left _ (List.mem_append_left _ (List.mem_append_left _ (List.mem_append_right _ (h)))))
abbrev rm_X6_init_X2 : Room := { frames := 1, cells := 0, slots := 0, locals := 12 }
set_option maxHeartbeats 4000000 in
set_option maxRecDepth 100000 in
theorem c_X6_init_X2 (l : Launch) (D : va_G) (cI cB cP : ClassId) (h0 : Nat) (wit : Nat)   : zVv (S := Unit) l D cI cB cP yX6_init wsX6_init rm_X6_init_X2 [.ref h0, .int (nI wit)] [(h0, .inr (2, [.int 0]))] ([]) 0 0 (fun _ => True) (fun u => [(h0, .inr (2, [.int (nI wit)]))]) := by
  refine zVv_of (cc := cX6_init) (maxL := 2) (by decide) rfl (Nat.le_of_ble_eq_true rfl) ?_
  intro p e s m args below meth c ls Q A H locs hx hb hml hts hown hin hP hD hS hA hRk hRA hK hN hl hret
  have hin : meth.name = "<init>" := hin
  have hown : s.vm.findClass RX6 = some m.cls := hown
  have hl : lv_has ls 2 [(0, .ref h0), (1, .int (nI wit))] := hl
  refine lv_aload_n hx hb dX6_init_0 rfl (lv_at hl 0 rfl) ?_
  refine W.objInit hx hb hown (hts (.methodLink RX6 3 objectInit) (List.mem_of_getElem? (i := 1) rfl)) (hts (.instanceMethod objectInit) (List.mem_of_getElem? (i := 2) rfl)) (hts _ (List.mem_of_getElem? (i := 3) rfl)) rfl (by rw [hml]; exact hl.1) rfl dX6_init_1 (Nat.le_of_ble_eq_true rfl) (Nat.le_of_ble_eq_true rfl) ?_
  refine W.eq (g2 := F0 m 4 ls []) rfl ?_
  refine lv_aload_n hx hb dX6_init_4 rfl (lv_at hl 0 rfl) ?_
  refine lv_iload_n hx hb dX6_init_5 rfl (lv_at hl 1 rfl) ?_
  refine va_putF (D := D) (ci := 2) (v := .int (nI wit)) (ty := .int) (C := RX2) (T := TX2) (N := 1) hx hb hts zi_X6_init_X2 tyX2 tyX2_ok nmX2 hown hK hP hD hS 0 rfl rfl 0 (by decide) (hts (.fieldLink RX6 9 "BeatenInstead$Prince" "wit" "I") (List.mem_of_getElem? (i := 4) rfl)) (fun _ h9 => h9) rfl hin rfl rfl rfl rfl (Nat.le_of_ble_eq_true rfl) dX6_init_6 (fun H locs hP hD hS => ?_)
  have hP : va_P D vwCl [(h0, .inr (2, [.int (nI wit)]))] H := hP
  have hD : va_D A [(h0, .inr (2, [.int (nI wit)]))] := hD
  exact hret _ _ (()) _ _ dX6_init_9 trivial hP hD hS

abbrev rm_X7_init_X7 : Room := { frames := 2, cells := 0, slots := 0, locals := 33 }
set_option maxHeartbeats 4000000 in
set_option maxRecDepth 100000 in
theorem c_X7_init_X7 (l : Launch) (D : va_G) (cI cB cP : ClassId) (h0 : Nat) (wit : Nat)   : zVv (S := Unit) l D cI cB cP yX7_init wsX7_init rm_X7_init_X7 [.ref h0, .int (nI wit)] [(h0, .inr (7, [.int 0]))] ([]) 0 0 (fun _ => True) (fun u => [(h0, .inr (7, [.int (nI wit)]))]) := by
  refine zVv_of (cc := cX7_init) (maxL := 2) (by decide) rfl (Nat.le_of_ble_eq_true rfl) ?_
  intro p e s m args below meth c ls Q A H locs hx hb hml hts hown hin hP hD hS hA hRk hRA hK hN hl hret
  have hin : meth.name = "<init>" := hin
  have hown : s.vm.findClass RX7 = some m.cls := hown
  have hl : lv_has ls 2 [(0, .ref h0), (1, .int (nI wit))] := hl
  refine lv_aload_n hx hb dX7_init_0 rfl (lv_at hl 0 rfl) ?_
  refine lv_iload_n hx hb dX7_init_1 rfl (lv_at hl 1 rfl) ?_
  refine z_av (wr := []) (z_wrunI (b := h0) (As := [.int (nI wit)]) (rest := []) hx hb hml hown hts hK hN hl.1 (c_X6_init_X7 l D cI cB cP h0 wit) gX7_init_X6_init rfl (List.mem_of_getElem? (i := 3) rfl) (List.mem_of_getElem? (i := 1) rfl) (List.mem_of_getElem? (i := 2) rfl) rfl zd_X6_init.2 rfl (Nat.le_of_ble_eq_true rfl) (Nat.le_of_ble_eq_true rfl) (hP.sub (ws' := [(h0, .inr (7, [.int 0]))]) [0] rfl) (hD.sub (ws' := [(h0, .inr (7, [.int 0]))]) [0] rfl rfl) z_p0 (fun _ h => absurd h List.not_mem_nil) rfl (Nat.le_of_ble_eq_true rfl) dX7_init_2 ⟨Nat.le_of_ble_eq_true rfl, Nat.le_of_ble_eq_true rfl⟩) hP hD hS hA [0] [] rfl rfl rfl (by decide) (fun u H locs hr hP hD hS => ?_)
  have hP : va_P D vwCl [(h0, .inr (7, [.int (nI wit)]))] H := hP
  have hD : va_D A [(h0, .inr (7, [.int (nI wit)]))] := hD
  exact hret _ _ (()) _ _ dX7_init_5 trivial hP hD hS

abbrev rm_X7_init_X2 : Room := { frames := 2, cells := 0, slots := 0, locals := 33 }
set_option maxHeartbeats 4000000 in
set_option maxRecDepth 100000 in
theorem c_X7_init_X2 (l : Launch) (D : va_G) (cI cB cP : ClassId) (h0 : Nat) (wit : Nat)   : zVv (S := Unit) l D cI cB cP yX7_init wsX7_init rm_X7_init_X2 [.ref h0, .int (nI wit)] [(h0, .inr (2, [.int 0]))] ([]) 0 0 (fun _ => True) (fun u => [(h0, .inr (2, [.int (nI wit)]))]) := by
  refine zVv_of (cc := cX7_init) (maxL := 2) (by decide) rfl (Nat.le_of_ble_eq_true rfl) ?_
  intro p e s m args below meth c ls Q A H locs hx hb hml hts hown hin hP hD hS hA hRk hRA hK hN hl hret
  have hin : meth.name = "<init>" := hin
  have hown : s.vm.findClass RX7 = some m.cls := hown
  have hl : lv_has ls 2 [(0, .ref h0), (1, .int (nI wit))] := hl
  refine lv_aload_n hx hb dX7_init_0 rfl (lv_at hl 0 rfl) ?_
  refine lv_iload_n hx hb dX7_init_1 rfl (lv_at hl 1 rfl) ?_
  refine z_av (wr := []) (z_wrunI (b := h0) (As := [.int (nI wit)]) (rest := []) hx hb hml hown hts hK hN hl.1 (c_X6_init_X2 l D cI cB cP h0 wit) gX7_init_X6_init rfl (List.mem_of_getElem? (i := 3) rfl) (List.mem_of_getElem? (i := 1) rfl) (List.mem_of_getElem? (i := 2) rfl) rfl zd_X6_init.2 rfl (Nat.le_of_ble_eq_true rfl) (Nat.le_of_ble_eq_true rfl) (hP.sub (ws' := [(h0, .inr (2, [.int 0]))]) [0] rfl) (hD.sub (ws' := [(h0, .inr (2, [.int 0]))]) [0] rfl rfl) z_p0 (fun _ h => absurd h List.not_mem_nil) rfl (Nat.le_of_ble_eq_true rfl) dX7_init_2 ⟨Nat.le_of_ble_eq_true rfl, Nat.le_of_ble_eq_true rfl⟩) hP hD hS hA [0] [] rfl rfl rfl (by decide) (fun u H locs hr hP hD hS => ?_)
  have hP : va_P D vwCl [(h0, .inr (2, [.int (nI wit)]))] H := hP
  have hD : va_D A [(h0, .inr (2, [.int (nI wit)]))] := hD
  exact hret _ _ (()) _ _ dX7_init_5 trivial hP hD hS

abbrev rm_X1_init : Room := { frames := 2, cells := 0, slots := 0, locals := 33 }
set_option maxHeartbeats 4000000 in
set_option maxRecDepth 100000 in
theorem c_X1_init (l : Launch) (D : va_G) (cI cB cP : ClassId) (h0 : Nat) (wit : Nat)   : zVv (S := Unit) l D cI cB cP yX1_init wsX1_init rm_X1_init [.ref h0, .int (nI wit)] [(h0, .inr (1, [.int 0]))] ([]) 0 0 (fun _ => True) (fun u => [(h0, .inr (1, [.int (nI wit)]))]) := by
  refine zVv_of (cc := cX1_init) (maxL := 2) (by decide) rfl (Nat.le_of_ble_eq_true rfl) ?_
  intro p e s m args below meth c ls Q A H locs hx hb hml hts hown hin hP hD hS hA hRk hRA hK hN hl hret
  have hin : meth.name = "<init>" := hin
  have hown : s.vm.findClass RX1 = some m.cls := hown
  have hl : lv_has ls 2 [(0, .ref h0), (1, .int (nI wit))] := hl
  refine lv_aload_n hx hb dX1_init_0 rfl (lv_at hl 0 rfl) ?_
  refine lv_iload_n hx hb dX1_init_1 rfl (lv_at hl 1 rfl) ?_
  refine z_av (wr := []) (z_wrunI (b := h0) (As := [.int (nI wit)]) (rest := []) hx hb hml hown hts hK hN hl.1 (c_X6_init_X1 l D cI cB cP h0 wit) gX1_init_X6_init rfl (List.mem_of_getElem? (i := 3) rfl) (List.mem_of_getElem? (i := 1) rfl) (List.mem_of_getElem? (i := 2) rfl) rfl zd_X6_init.2 rfl (Nat.le_of_ble_eq_true rfl) (Nat.le_of_ble_eq_true rfl) (hP.sub (ws' := [(h0, .inr (1, [.int 0]))]) [0] rfl) (hD.sub (ws' := [(h0, .inr (1, [.int 0]))]) [0] rfl rfl) z_p0 (fun _ h => absurd h List.not_mem_nil) rfl (Nat.le_of_ble_eq_true rfl) dX1_init_2 ⟨Nat.le_of_ble_eq_true rfl, Nat.le_of_ble_eq_true rfl⟩) hP hD hS hA [0] [] rfl rfl rfl (by decide) (fun u H locs hr hP hD hS => ?_)
  have hP : va_P D vwCl [(h0, .inr (1, [.int (nI wit)]))] H := hP
  have hD : va_D A [(h0, .inr (1, [.int (nI wit)]))] := hD
  exact hret _ _ (()) _ _ dX1_init_5 trivial hP hD hS

abbrev rm_X3_init : Room := { frames := 2, cells := 0, slots := 0, locals := 33 }
set_option maxHeartbeats 4000000 in
set_option maxRecDepth 100000 in
theorem c_X3_init (l : Launch) (D : va_G) (cI cB cP : ClassId) (h0 : Nat) (wit : Nat)   : zVv (S := Unit) l D cI cB cP yX3_init wsX3_init rm_X3_init [.ref h0, .int (nI wit)] [(h0, .inr (3, [.int 0]))] ([]) 0 0 (fun _ => True) (fun u => [(h0, .inr (3, [.int (nI wit)]))]) := by
  refine zVv_of (cc := cX3_init) (maxL := 2) (by decide) rfl (Nat.le_of_ble_eq_true rfl) ?_
  intro p e s m args below meth c ls Q A H locs hx hb hml hts hown hin hP hD hS hA hRk hRA hK hN hl hret
  have hin : meth.name = "<init>" := hin
  have hown : s.vm.findClass RX3 = some m.cls := hown
  have hl : lv_has ls 2 [(0, .ref h0), (1, .int (nI wit))] := hl
  refine lv_aload_n hx hb dX3_init_0 rfl (lv_at hl 0 rfl) ?_
  refine lv_iload_n hx hb dX3_init_1 rfl (lv_at hl 1 rfl) ?_
  refine z_av (wr := []) (z_wrunI (b := h0) (As := [.int (nI wit)]) (rest := []) hx hb hml hown hts hK hN hl.1 (c_X6_init_X3 l D cI cB cP h0 wit) gX3_init_X6_init rfl (List.mem_of_getElem? (i := 3) rfl) (List.mem_of_getElem? (i := 1) rfl) (List.mem_of_getElem? (i := 2) rfl) rfl zd_X6_init.2 rfl (Nat.le_of_ble_eq_true rfl) (Nat.le_of_ble_eq_true rfl) (hP.sub (ws' := [(h0, .inr (3, [.int 0]))]) [0] rfl) (hD.sub (ws' := [(h0, .inr (3, [.int 0]))]) [0] rfl rfl) z_p0 (fun _ h => absurd h List.not_mem_nil) rfl (Nat.le_of_ble_eq_true rfl) dX3_init_2 ⟨Nat.le_of_ble_eq_true rfl, Nat.le_of_ble_eq_true rfl⟩) hP hD hS hA [0] [] rfl rfl rfl (by decide) (fun u H locs hr hP hD hS => ?_)
  have hP : va_P D vwCl [(h0, .inr (3, [.int (nI wit)]))] H := hP
  have hD : va_D A [(h0, .inr (3, [.int (nI wit)]))] := hD
  exact hret _ _ (()) _ _ dX3_init_5 trivial hP hD hS

abbrev rm_X2_init : Room := { frames := 3, cells := 0, slots := 0, locals := 54 }
set_option maxHeartbeats 4000000 in
set_option maxRecDepth 100000 in
theorem c_X2_init (l : Launch) (D : va_G) (cI cB cP : ClassId) (h0 : Nat) (wit : Nat)   : zVv (S := Unit) l D cI cB cP yX2_init wsX2_init rm_X2_init [.ref h0, .int (nI wit)] [(h0, .inr (2, [.int 0]))] ([]) 0 0 (fun _ => True) (fun u => [(h0, .inr (2, [.int (nI wit)]))]) := by
  refine zVv_of (cc := cX2_init) (maxL := 2) (by decide) rfl (Nat.le_of_ble_eq_true rfl) ?_
  intro p e s m args below meth c ls Q A H locs hx hb hml hts hown hin hP hD hS hA hRk hRA hK hN hl hret
  have hin : meth.name = "<init>" := hin
  have hown : s.vm.findClass RX2 = some m.cls := hown
  have hl : lv_has ls 2 [(0, .ref h0), (1, .int (nI wit))] := hl
  refine lv_aload_n hx hb dX2_init_0 rfl (lv_at hl 0 rfl) ?_
  refine lv_iload_n hx hb dX2_init_1 rfl (lv_at hl 1 rfl) ?_
  refine z_av (wr := []) (z_wrunI (b := h0) (As := [.int (nI wit)]) (rest := []) hx hb hml hown hts hK hN hl.1 (c_X7_init_X2 l D cI cB cP h0 wit) gX2_init_X7_init rfl (List.mem_of_getElem? (i := 3) rfl) (List.mem_of_getElem? (i := 1) rfl) (List.mem_of_getElem? (i := 2) rfl) rfl zd_X7_init.2 rfl (Nat.le_of_ble_eq_true rfl) (Nat.le_of_ble_eq_true rfl) (hP.sub (ws' := [(h0, .inr (2, [.int 0]))]) [0] rfl) (hD.sub (ws' := [(h0, .inr (2, [.int 0]))]) [0] rfl rfl) z_p0 (fun _ h => absurd h List.not_mem_nil) rfl (Nat.le_of_ble_eq_true rfl) dX2_init_2 ⟨Nat.le_of_ble_eq_true rfl, Nat.le_of_ble_eq_true rfl⟩) hP hD hS hA [0] [] rfl rfl rfl (by decide) (fun u H locs hr hP hD hS => ?_)
  have hP : va_P D vwCl [(h0, .inr (2, [.int (nI wit)]))] H := hP
  have hD : va_D A [(h0, .inr (2, [.int (nI wit)]))] := hD
  exact hret _ _ (()) _ _ dX2_init_5 trivial hP hD hS
