-- the static row of places MATCHES, read only
def zMT : List Nat := [0, 1, 2, 0, 2, 1, 1, 0, 2, 1, 2, 0, 2, 0, 1, 2, 1, 0]
def zMN (i : Nat) : Nat := zMT.getD i 0
theorem zMN_lt (i : Nat) : zMN i < 3 := by
  by_cases h : i < 18
  · exact (by decide +kernel : ∀ i, i < 18 → zMN i < 3) i h
  · have : zMN i = 0 := by unfold zMN; rw [List.getD_eq_getElem?_getD, List.getElem?_eq_none (by simp [zMT]; omega)]; rfl
    omega
def zM (bM : Nat) (U : State) : Prop := va_Z "BeatenInstead" "MATCHES" "[I" (.ref bM) (fun _ => False) U U.heap ∧ va_X bM 18 (fun q_ => nI (zMN q_)) U U.heap ∧ bM < U.heap.size
def zRM (D : va_G) (cI cB cP : ClassId) (bM : Nat) (RS : va_W) (U : State) : Prop := zR D cI cB cP RS U ∧ zM bM U
theorem zM.go {bM : Nat} {s U : State} (hA : s.vm.Alike U.vm) (hh : U.heap = s.heap) (h : zM bM s) : zM bM U := by
  obtain ⟨h1, h2, h3⟩ := h
  refine ⟨?_, ?_, by rw [hh]; exact h3⟩
  · rw [hh]; exact va_Z.moved hA h1
  · rw [hh]; exact va_X.moved hA h2
theorem zRM_blind {D : va_G} {cI cB cP : ClassId} {bM : Nat} {RS : va_W} {av : List Value} : FrameBlind (va_Pc av (zRM D cI cB cP bM RS)) := fun a U g mk q => by
  obtain ⟨q0, ⟨qP, qK, qN⟩, qM⟩ := q
  exact ⟨q0, ⟨qP, va_K.moved (u := U) (U := U.calling g mk a) (Vm.Alike.refl U.vm) qK, zN.same (s := U) (U := U.calling g mk a) rfl qN⟩, zM.go (s := U) (U := U.calling g mk a) (Vm.Alike.refl U.vm) rfl qM⟩
theorem zRM_pre {D : va_G} {cI cB cP : ClassId} {bM : Nat} {RS : va_W} {av : List Value} {s : State} (hP : va_P D vwCl RS s.heap) (hK : va_K D vwCl (zT cI cB cP) s) (hN : zN s) (hM : zM bM s) : ∀ U : State, U.heap = s.heap → s.WarmedH U.vm → va_Pc av (zRM D cI cB cP bM RS) av.toArray U :=
  fun U hU hW => ⟨rfl, ⟨by rw [hU]; exact hP, va_K.moved hW.alike hK, hN.warm hW⟩, zM.go hW.alike hU hM⟩
def zPiM (l : Launch) (D : va_G) (cI cB cP : ClassId) (bM : Nat) (y : MethodName) (ws : List Cond) (rm : Room) (av : List Value) (RS : va_W) (post : Int32 → Prop) : Prop := Met l y ws rm (va_Pc av (zRM D cI cB cP bM RS)) (vp_Si post) 0 0 (fun _ => False)
def zPlM (l : Launch) (D : va_G) (cI cB cP : ClassId) (bM : Nat) (y : MethodName) (ws : List Cond) (rm : Room) (av : List Value) (RS : va_W) (post : Int64 → Prop) : Prop := Met l y ws rm (va_Pc av (zRM D cI cB cP bM RS)) (vp_Sl post) 0 0 (fun _ => False)
theorem z_ofRM {l : Launch} {D : va_G} {cI cB cP : ClassId} {bM : Nat} {y : MethodName} {ws ws' : List Cond} {rm : Room} {av : List Value} {RS : va_W} {Qc : Array Value → State → Outcome → State → Prop} {cc : ByteArray} {maxL : Nat} {ret : Option FieldType} (hy : plainName y.cls = true) (hw : ws = Cond.code y cc maxL ret :: ws') (hlen : (lg_sl av).length ≤ maxL)
    (body : ∀ (p : Program) (e : Env) (s : State) (m : MethodId) (args : Array Value) (below : List Frame) (meth : Method) (c : Code) (ls : Array Slot), p.tables.exec = Jvm.exec → c.code = cc → c.maxLocals = maxL → meth.sig.returnType = ret → (∀ w ∈ ws, w.before args s = true) → s.vm.findClass y.cls = some m.cls → meth.locks = false → va_P D vwCl RS s.heap → va_K D vwCl (zT cI cB cP) s → zN s → zM bM s → lv_has ls maxL (lv_args 0 av) →
      W p l e rm s m args below meth c s.heap [] 0 0 (MQ below Qc args s 0 0 (fun _ => False)) (F0 m 0 ls [])) :
    Met l y ws rm (va_Pc av (zRM D cI cB cP bM RS)) Qc 0 0 (fun _ => False) := by
  refine Met.ofW (cc := cc) (maxL := maxL) (ret := ret) hy hw ?_
  intro p e s m args below meth c s₁ B hml hv
  obtain ⟨rfl, ⟨hP, hK, hN⟩, hM⟩ := hv
  rw [lg_entry_eq]
  exact body p e s m _ below meth c _ B.exec B.bytes hml B.returns (atoms_spec (ws := ws) B.pre) (findClass_of_methodNamed B.named) B.notSynchronized hP hK hN hM (lv_entry av hlen)
section
variable {l : Launch} {D : va_G} {cI cB cP : ClassId} {bM : Nat} {y : MethodName} {ws ws' : List Cond} {rm : Room} {av : List Value} {RS : va_W} {cc : ByteArray} {maxL : Nat}
theorem zPiM_of {post : Int32 → Prop} (hy : plainName y.cls = true) (hw : ws = Cond.code y cc maxL (some .int) :: ws') (hlen : (lg_sl av).length ≤ maxL)
    (body : ∀ (p : Program) (e : Env) (s : State) (m : MethodId) (args : Array Value) (below : List Frame) (meth : Method) (c : Code) (ls : Array Slot) (Q : State → Prop), p.tables.exec = Jvm.exec → c.code = cc → c.maxLocals = maxL → (∀ w ∈ ws, w.before args s = true) → s.vm.findClass y.cls = some m.cls → va_P D vwCl RS s.heap → va_K D vwCl (zT cI cB cP) s → zN s → zM bM s → lv_has ls maxL (lv_args 0 av) →
      (∀ (pc : Nat) (ls : Array Slot) (v : Int32), decode cc pc = .ok (.ireturn, 1) → post v → W p l e rm s m args below meth c s.heap [] 0 0 Q (F0 m pc ls [.int v])) → W p l e rm s m args below meth c s.heap [] 0 0 Q (F0 m 0 ls [])) : zPiM l D cI cB cP bM y ws rm av RS post :=
  z_ofRM hy hw hlen (fun p e s m args below meth c ls hx hb hml hr hts hown hlocks hP hK hN hM hl => body p e s m args below meth c ls _ hx hb hml hts hown hP hK hN hM hl (fun pc ls v hdg hp => z_iret hx hb hr hlocks hdg hp))
theorem zPlM_of {post : Int64 → Prop} (hy : plainName y.cls = true) (hw : ws = Cond.code y cc maxL (some .long) :: ws') (hlen : (lg_sl av).length ≤ maxL)
    (body : ∀ (p : Program) (e : Env) (s : State) (m : MethodId) (args : Array Value) (below : List Frame) (meth : Method) (c : Code) (ls : Array Slot) (Q : State → Prop), p.tables.exec = Jvm.exec → c.code = cc → c.maxLocals = maxL → (∀ w ∈ ws, w.before args s = true) → s.vm.findClass y.cls = some m.cls → va_P D vwCl RS s.heap → va_K D vwCl (zT cI cB cP) s → zN s → zM bM s → lv_has ls maxL (lv_args 0 av) →
      (∀ (pc : Nat) (ls : Array Slot) (v : Int64), decode cc pc = .ok (.lreturn, 1) → post v → W p l e rm s m args below meth c s.heap [] 0 0 Q (F0 m pc ls [.long v])) → W p l e rm s m args below meth c s.heap [] 0 0 Q (F0 m 0 ls [])) : zPlM l D cI cB cP bM y ws rm av RS post :=
  z_ofRM hy hw hlen (fun p e s m args below meth c ls hx hb hml hr hts hown hlocks hP hK hN hM hl => body p e s m args below meth c ls _ hx hb hml hts hown hP hK hN hM hl (fun pc ls v hdg hp => z_lret hx hb hr hlocks hdg hp))
end
section
variable {p : Program} {l : Launch} {e : Env} {R : Room} {s : State} {m : MethodId} {args : Array Value} {below : List Frame} {meth : Method} {c : Code} {locs : List Loc} {cells slots : Nat} {Q : State → Prop} {pc : Nat} {ls : Array Slot} {rest st0 : List Value}
theorem z_runVM {D : va_G} {cI cB cP : ClassId} {bM : Nat} {y : MethodName} {bytes cc : ByteArray} {maxL nL n index : Nat} {ret : Option FieldType} {ws ws' : List Cond} {fr lo : Nat} {Qc : Array Value → State → Outcome → State → Prop} {Ts : List Cond} {own C : String} {b : Addr} {As : List Value} {RS : va_W}
    (hx : p.tables.exec = Jvm.exec) (hb : c.code = cc) (hml : c.maxLocals = nL) (hown : s.vm.findClass own = some m.cls) (hts : ∀ w ∈ Ts, w.before args s = true) (hK : va_K D vwCl (zT cI cB cP) s) (hN : zN s) (hlz : ls.size = nL)
    (hM : Met l y ws { frames := fr, cells := 0, slots := 0, locals := lo } (va_Pc (.ref b :: As) (zRM D cI cB cP bM RS)) Qc 0 0 (fun _ => False)) (hM_ : zM bM s) (hG : GoodIn Ts (wsV own index C y ws)) (hw : ws = Cond.code y bytes maxL ret :: ws')
    (hd : y.cls = C ∧ y.cls ≠ "java/lang/invoke/MethodHandle" ∧ y.cls ≠ "java/lang/invoke/VarHandle" ∧ (parseMethodDescriptor y.desc).map (fun d => d.parameters.length) = some n) (hn : As.length = n) (hR1 : fr + 1 ≤ R.frames) (hR2 : 8 + (maxL + 11) + lo ≤ R.locals)
    (hP : va_P D vwCl RS s.heap) (hrc : ∃ cell : Cell, s.heap[b]? = some cell ∧ cell.vm.isStatics = false ∧ s.vm.findClass C = some cell.cls) (hst : st0 = As.reverse ++ .ref b :: rest) (hW : (rest.map fun v => v.category).sum ≤ 8) (hdg : decode cc pc = .ok (.invokevirtual index, 3)) (hf : cells ≤ R.cells ∧ slots ≤ R.slots) :
    CallRun p l e R s m args below meth c s.heap locs cells slots 0 0 (F0 m pc ls st0) rest (Qc (Value.ref b :: As).toArray) (fun _ => False) :=
  W.runV ⟨hx, hb, hml, hown, hts⟩ hM (cwV n hts hG hw rfl rfl hd ⟨hR1, hR2⟩) ⟨zRM_blind, hrc, zRM_pre hP hK hN hM_⟩ rfl hn hlz hst (lv_room hW) hdg hf
theorem z_runSM {D : va_G} {cI cB cP : ClassId} {bM : Nat} {y : MethodName} {bytes cc : ByteArray} {maxL nL n index : Nat} {ret : Option FieldType} {ws ws' : List Cond} {fr lo : Nat} {Qc : Array Value → State → Outcome → State → Prop} {Ts : List Cond} {own C : String} {As : List Value} {RS : va_W}
    (hx : p.tables.exec = Jvm.exec) (hb : c.code = cc) (hml : c.maxLocals = nL) (hown : s.vm.findClass own = some m.cls) (hts : ∀ w ∈ Ts, w.before args s = true) (hK : va_K D vwCl (zT cI cB cP) s) (hN : zN s) (hlz : ls.size = nL)
    (hM : Met l y ws { frames := fr, cells := 0, slots := 0, locals := lo } (va_Pc As (zRM D cI cB cP bM RS)) Qc 0 0 (fun _ => False)) (hM_ : zM bM s) (hG : GoodIn Ts (va_wsS own index y ws)) (hw : ws = Cond.code y bytes maxL ret :: ws')
    (hd : y.cls = C ∧ y.cls ≠ "java/lang/invoke/MethodHandle" ∧ y.cls ≠ "java/lang/invoke/VarHandle" ∧ (parseMethodDescriptor y.desc).map (fun d => d.parameters.length) = some n) (hn : As.length = n) (hR1 : fr + 1 ≤ R.frames) (hR2 : 8 + (maxL + 11) + lo ≤ R.locals)
    (hP : va_P D vwCl RS s.heap) (hst : st0 = As.reverse ++ rest) (hW : (rest.map fun v => v.category).sum ≤ 8) (hdg : decode cc pc = .ok (.invokestatic index, 3)) (hf : cells ≤ R.cells ∧ slots ≤ R.slots) :
    CallRun p l e R s m args below meth c s.heap locs cells slots 0 0 (F0 m pc ls st0) rest (Qc As.toArray) (fun _ => False) :=
  W.runS ⟨hx, hb, hml, hown, hts⟩ hM (va_cwS n hts hG hw rfl rfl hd.2 ⟨hR1, hR2⟩) ⟨zRM_blind, zRM_pre hP hK hN hM_⟩ rfl hn hlz hst (lv_room hW) hdg hf
end
