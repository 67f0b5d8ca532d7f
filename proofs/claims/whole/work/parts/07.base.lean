-- nest links, casts: words that no list of words holds
noncomputable def zNW : List Cond := [.fieldLinkNest "BeatenInstead$Text" 25 "BeatenInstead$Page" "size" "I" "BeatenInstead",
  .fieldLinkNest "BeatenInstead" 67 "BeatenInstead$Page" "size" "I" "BeatenInstead",
  .fieldLinkNest "BeatenInstead$Ordering" 29 "BeatenInstead$Text" "lessons" "I" "BeatenInstead",
  .fieldLinkNest "BeatenInstead$Blame" 26 "BeatenInstead$Text" "lessons" "I" "BeatenInstead",
  .fieldLinkNest "BeatenInstead" 89 "BeatenInstead$Text" "lessons" "I" "BeatenInstead",
  .fieldLinkNest "BeatenInstead$Blame" 49 "BeatenInstead$Text" "limit" "I" "BeatenInstead",
  .fieldLinkNest "BeatenInstead$Ordering" 74 "BeatenInstead$Text" "limit" "I" "BeatenInstead",
  .fieldLinkNest "BeatenInstead" 256 "BeatenInstead$Text" "limit" "I" "BeatenInstead",
  .fieldLinkNest "BeatenInstead" 118 "BeatenInstead$Standing" "princes" "I" "BeatenInstead",
  .fieldLinkNest "BeatenInstead" 232 "BeatenInstead$Standing" "heard" "I" "BeatenInstead",
  .fieldLinkNest "BeatenInstead" 323 "BeatenInstead$Standing" "heardPrince" "[I" "BeatenInstead",
  .fieldLinkNest "BeatenInstead" 326 "BeatenInstead$Standing" "heardLesson" "[I" "BeatenInstead",
  .fieldLinkNest "BeatenInstead" 329 "BeatenInstead$Standing" "heardLearnt" "[I" "BeatenInstead",
  .fieldLinkNest "BeatenInstead" 200 "BeatenInstead$Ordering" "whole" "J" "BeatenInstead",
  .fieldLinkNest "BeatenInstead" 196 "BeatenInstead$Ordering" "bestMean" "J" "BeatenInstead",
  .fieldLinkNest "BeatenInstead" 226 "BeatenInstead$Blame" "sets" "I" "BeatenInstead",
  .fieldLinkNest "BeatenInstead" 229 "BeatenInstead$Blame" "inAll" "I" "BeatenInstead",
  .methodLinkNest "BeatenInstead" 11 ⟨"BeatenInstead$Page", "<init>", "()V"⟩ "BeatenInstead",
  .methodLinkNest "BeatenInstead" 18 ⟨"BeatenInstead$Text", "<init>", "()V"⟩ "BeatenInstead",
  .methodLinkNest "BeatenInstead" 31 ⟨"BeatenInstead$Standing", "<init>", "()V"⟩ "BeatenInstead",
  .methodLinkNest "BeatenInstead" 44 ⟨"BeatenInstead$Ordering", "<init>", "()V"⟩ "BeatenInstead",
  .methodLinkNest "BeatenInstead" 51 ⟨"BeatenInstead$Blame", "<init>", "()V"⟩ "BeatenInstead",
  .methodLinkNest "BeatenInstead" 70 ⟨"BeatenInstead$Page", "add", "(I)V"⟩ "BeatenInstead",
  .methodLinkNest "BeatenInstead$Page" 19 ⟨"BeatenInstead", "put", "([III)V"⟩ "BeatenInstead",
  .methodLinkNest "BeatenInstead" 74 ⟨"BeatenInstead$Page", "firstFault", "()I"⟩ "BeatenInstead",
  .methodLinkNest "BeatenInstead$Page" 23 ⟨"BeatenInstead", "at", "([II)I"⟩ "BeatenInstead",
  .methodLinkNest "BeatenInstead" 78 ⟨"BeatenInstead$Page", "isWhole", "()Z"⟩ "BeatenInstead",
  .methodLinkNest "BeatenInstead" 82 ⟨"BeatenInstead$Text", "read", "(LBeatenInstead$Page;)V"⟩ "BeatenInstead",
  .methodLinkNest "BeatenInstead$Text" 30 ⟨"BeatenInstead$Page", "digitAt", "(I)I"⟩ "BeatenInstead",
  .methodLinkNest "BeatenInstead$Text" 34 ⟨"BeatenInstead", "put", "([III)V"⟩ "BeatenInstead",
  .methodLinkNest "BeatenInstead" 86 ⟨"BeatenInstead$Standing", "clear", "()V"⟩ "BeatenInstead",
  .methodLinkNest "BeatenInstead$Standing" 40 ⟨"BeatenInstead", "fill", "([II)V"⟩ "BeatenInstead",
  .methodLinkNest "BeatenInstead" 92 ⟨"BeatenInstead$Text", "has", "(I)Z"⟩ "BeatenInstead",
  .methodLinkNest "BeatenInstead" 96 ⟨"BeatenInstead$Text", "hardOf", "(I)I"⟩ "BeatenInstead",
  .methodLinkNest "BeatenInstead$Text" 38 ⟨"BeatenInstead", "at", "([II)I"⟩ "BeatenInstead",
  .methodLinkNest "BeatenInstead" 100 ⟨"BeatenInstead$Text", "blowsOf", "(I)I"⟩ "BeatenInstead",
  .methodLinkNest "BeatenInstead" 103 ⟨"BeatenInstead$Standing", "whoLearnt", "(I)I"⟩ "BeatenInstead",
  .methodLinkNest "BeatenInstead$Standing" 60 ⟨"BeatenInstead", "at", "([II)I"⟩ "BeatenInstead",
  .methodLinkNest "BeatenInstead$Standing" 79 ⟨"BeatenInstead", "isIn", "(II)Z"⟩ "BeatenInstead",
  .methodLinkNest "BeatenInstead" 106 ⟨"BeatenInstead$Text", "isRead", "()Z"⟩ "BeatenInstead",
  .methodLinkNest "BeatenInstead" 112 ⟨"BeatenInstead$Standing", "stripesOf", "(I)I"⟩ "BeatenInstead",
  .methodLinkNest "BeatenInstead" 124 ⟨"BeatenInstead$Standing", "addPrince", "()V"⟩ "BeatenInstead",
  .methodLinkNest "BeatenInstead$Standing" 56 ⟨"BeatenInstead", "put", "([III)V"⟩ "BeatenInstead",
  .methodLinkNest "BeatenInstead" 137 ⟨"BeatenInstead$Standing", "boyOf", "(I)I"⟩ "BeatenInstead",
  .methodLinkNest "BeatenInstead" 140 ⟨"BeatenInstead$Standing", "fondOfHisBoy", "(I)I"⟩ "BeatenInstead",
  .methodLinkNest "BeatenInstead" 146 ⟨"BeatenInstead$Standing", "learntBy", "(I)I"⟩ "BeatenInstead",
  .methodLinkNest "BeatenInstead" 149 ⟨"BeatenInstead$Standing", "fondOf", "(II)I"⟩ "BeatenInstead",
  .methodLinkNest "BeatenInstead" 156 ⟨"BeatenInstead$Standing", "setBoy", "(II)V"⟩ "BeatenInstead",
  .methodLinkNest "BeatenInstead" 160 ⟨"BeatenInstead$Standing", "setFond", "(III)V"⟩ "BeatenInstead",
  .methodLinkNest "BeatenInstead" 164 ⟨"BeatenInstead$Text", "tenthsFor", "(LBeatenInstead$Prince;II)I"⟩ "BeatenInstead",
  .methodLinkNest "BeatenInstead" 317 ⟨"BeatenInstead$Standing", "learn", "(II)V"⟩ "BeatenInstead",
  .methodLinkNest "BeatenInstead" 320 ⟨"BeatenInstead$Standing", "beat", "(III)V"⟩ "BeatenInstead",
  .methodLinkNest "BeatenInstead$Standing" 91 ⟨"BeatenInstead", "fondAfterBlows", "(III)I"⟩ "BeatenInstead",
  .methodLinkNest "BeatenInstead" 189 ⟨"BeatenInstead$Ordering", "find", "(LBeatenInstead$Text;LBeatenInstead$Prince;III)V"⟩ "BeatenInstead",
  .methodLinkNest "BeatenInstead$Ordering" 34 ⟨"BeatenInstead", "isIn", "(II)Z"⟩ "BeatenInstead",
  .methodLinkNest "BeatenInstead$Ordering" 58 ⟨"BeatenInstead", "at", "([II)I"⟩ "BeatenInstead",
  .methodLinkNest "BeatenInstead$Ordering" 62 ⟨"BeatenInstead$Text", "tenthsFor", "(LBeatenInstead$Prince;II)I"⟩ "BeatenInstead",
  .methodLinkNest "BeatenInstead$Ordering" 66 ⟨"BeatenInstead", "canBe", "(IZ)Z"⟩ "BeatenInstead",
  .methodLinkNest "BeatenInstead$Ordering" 70 ⟨"BeatenInstead$Text", "blowsOf", "(I)I"⟩ "BeatenInstead",
  .methodLinkNest "BeatenInstead$Ordering" 77 ⟨"BeatenInstead", "fondAfterBlows", "(III)I"⟩ "BeatenInstead",
  .methodLinkNest "BeatenInstead$Ordering" 50 ⟨"BeatenInstead", "copy", "([I[I)V"⟩ "BeatenInstead",
  .methodLinkNest "BeatenInstead$Ordering" 54 ⟨"BeatenInstead", "put", "([III)V"⟩ "BeatenInstead",
  .methodLinkNest "BeatenInstead" 193 ⟨"BeatenInstead$Ordering", "lessonAt", "(I)I"⟩ "BeatenInstead",
  .methodLinkNest "BeatenInstead" 223 ⟨"BeatenInstead$Blame", "find", "(LBeatenInstead$Text;LBeatenInstead$Prince;IIII)V"⟩ "BeatenInstead",
  .methodLinkNest "BeatenInstead$Blame" 31 ⟨"BeatenInstead", "isIn", "(II)Z"⟩ "BeatenInstead",
  .methodLinkNest "BeatenInstead$Blame" 37 ⟨"BeatenInstead$Text", "tenthsFor", "(LBeatenInstead$Prince;II)I"⟩ "BeatenInstead",
  .methodLinkNest "BeatenInstead$Blame" 41 ⟨"BeatenInstead", "canBe", "(IZ)Z"⟩ "BeatenInstead",
  .methodLinkNest "BeatenInstead$Blame" 45 ⟨"BeatenInstead$Text", "blowsOf", "(I)I"⟩ "BeatenInstead",
  .methodLinkNest "BeatenInstead$Blame" 52 ⟨"BeatenInstead", "fondAfterBlows", "(III)I"⟩ "BeatenInstead",
  .methodLinkNest "BeatenInstead" 235 ⟨"BeatenInstead$Standing", "addHeard", "(IIZ)V"⟩ "BeatenInstead",
  .methodLinkNest "BeatenInstead" 243 ⟨"BeatenInstead$Standing", "copyFrom", "(LBeatenInstead$Standing;)V"⟩ "BeatenInstead",
  .methodLinkNest "BeatenInstead$Standing" 44 ⟨"BeatenInstead", "copy", "([I[I)V"⟩ "BeatenInstead",
  .methodLinkNest "BeatenInstead" 250 ⟨"BeatenInstead$Standing", "allStripes", "()I"⟩ "BeatenInstead",
  .methodLinkNest "BeatenInstead$Standing" 72 ⟨"BeatenInstead", "sum", "([I)I"⟩ "BeatenInstead",
  .methodLinkNest "BeatenInstead" 253 ⟨"BeatenInstead$Standing", "allLearnt", "()I"⟩ "BeatenInstead",
  .methodLinkNest "BeatenInstead" 278 ⟨"BeatenInstead$Page", "codeAt", "(I)I"⟩ "BeatenInstead",
  .castable "BeatenInstead$High" "BeatenInstead$Proud",
  .castable "BeatenInstead$Proud" "BeatenInstead$Prince",
  .castable "BeatenInstead$Cruel" "BeatenInstead$Prince",
  .castable "BeatenInstead$Lazy" "BeatenInstead$Prince",
  .castable "BeatenInstead$High" "BeatenInstead$Prince"]
def zWk (w : Cond) : Bool := match w with | .fieldLinkNest _ _ _ _ _ _ => true | .methodLinkNest _ _ _ _ => true | .castable _ _ => true | _ => false
theorem zNW_k : ∀ w ∈ zNW, zWk w = true := by decide +kernel
def zNC : List (String × String) := [("BeatenInstead$Cruel", "BeatenInstead$Proud"), ("BeatenInstead$Lazy", "BeatenInstead$Proud"), ("BeatenInstead$Prince", "BeatenInstead$Proud"), ("BeatenInstead$Proud", "BeatenInstead$Cruel"), ("BeatenInstead$Lazy", "BeatenInstead$Cruel"), ("BeatenInstead$High", "BeatenInstead$Cruel"), ("BeatenInstead$Prince", "BeatenInstead$Cruel"), ("BeatenInstead$Proud", "BeatenInstead$Lazy"), ("BeatenInstead$Cruel", "BeatenInstead$Lazy"), ("BeatenInstead$High", "BeatenInstead$Lazy"), ("BeatenInstead$Prince", "BeatenInstead$Lazy"), ("BeatenInstead$Proud", "BeatenInstead$High"), ("BeatenInstead$Cruel", "BeatenInstead$High"), ("BeatenInstead$Lazy", "BeatenInstead$High"), ("BeatenInstead$Prince", "BeatenInstead$High")]
def zN (U : State) : Prop := (∀ w ∈ zNW, va_Nw w U) ∧ (∀ q ∈ zNC, va_Nc q.1 q.2 U) ∧ va_AO "BeatenInstead$Prince" U
theorem zN.warm {s U : State} (hW : s.WarmedH U.vm) (h : zN s) : zN U := by
  refine ⟨fun w hw => ?_, fun q hq => va_Nc.moved hW.alike (h.2.1 q hq), va_AO.moved hW.alike h.2.2⟩
  have h1 := h.1 w hw
  have h2 := zNW_k w hw
  cases w with
  | fieldLinkNest => exact va_Nw.warmF hW h1
  | methodLinkNest => exact va_Nw.warmM hW h1
  | castable => exact va_Nw.warmC hW h1
  | _ => simp [zWk] at h2
theorem zN.same {s U : State} (e : s.vm = U.vm) (h : zN s) : zN U := by
  have hA : s.vm.Alike U.vm := by rw [e]; exact Vm.Alike.refl U.vm
  refine ⟨fun w hw => ?_, fun q hq => va_Nc.moved hA (h.2.1 q hq), va_AO.moved hA h.2.2⟩
  have h1 := h.1 w hw
  have h2 := zNW_k w hw
  cases w with
  | fieldLinkNest => exact va_Nw.same rfl e h1
  | methodLinkNest => exact va_Nw.same rfl e h1
  | castable => exact va_Nw.same rfl e h1
  | _ => simp [zWk] at h2
theorem zN.w {s : State} {args : Array Value} (h : zN s) {w : Cond} (k : Nat) (hk : zNW[k]? = some w) (ho : w.onTables = true) : w.before args s = true := va_Nw.use ho (h.1 w (List.mem_of_getElem? hk))
theorem zN.n {s : State} (h : zN s) {w : Cond} (k : Nat) (hk : zNW[k]? = some w) : va_Nw w s := h.1 w (List.mem_of_getElem? hk)
theorem zN.c {s : State} (h : zN s) {q : String × String} (k : Nat) (hk : zNC[k]? = some q) : va_Nc q.1 q.2 s := h.2.1 q (List.mem_of_getElem? hk)
abbrev zT (cI cB cP : ClassId) : List (ClassId × FieldType) := [(cI, .int), (cB, .byte), (cP, .object "BeatenInstead$Prince")]
/-- what a reading method finds: the cells RS, the classes, the nest words -/
def zR (D : va_G) (cI cB cP : ClassId) (RS : va_W) (U : State) : Prop := va_P D vwCl RS U.heap ∧ va_K D vwCl (zT cI cB cP) U ∧ zN U
theorem zR_blind {D : va_G} {cI cB cP : ClassId} {RS : va_W} {av : List Value} : FrameBlind (va_Pc av (zR D cI cB cP RS)) := fun a U g mk q => by
  obtain ⟨q0, qP, qK, qN⟩ := q
  exact ⟨q0, qP, va_K.moved (u := U) (U := U.calling g mk a) (Vm.Alike.refl U.vm) qK, zN.same (s := U) (U := U.calling g mk a) rfl qN⟩
theorem zR_pre {D : va_G} {cI cB cP : ClassId} {RS : va_W} {av : List Value} {s : State} {H : Heap} (hP : va_P D vwCl RS H) (hK : va_K D vwCl (zT cI cB cP) s) (hN : zN s) : ∀ U : State, U.heap = H → s.WarmedH U.vm → va_Pc av (zR D cI cB cP RS) av.toArray U :=
  fun U hU hW => ⟨rfl, by rw [hU]; exact hP, va_K.moved hW.alike hK, hN.warm hW⟩
/-- a reading method's contract -/
def zPi (l : Launch) (D : va_G) (cI cB cP : ClassId) (y : MethodName) (ws : List Cond) (rm : Room) (av : List Value) (RS : va_W) (post : Int32 → Prop) : Prop := Met l y ws rm (va_Pc av (zR D cI cB cP RS)) (vp_Si post) 0 0 (fun _ => False)
def zPl (l : Launch) (D : va_G) (cI cB cP : ClassId) (y : MethodName) (ws : List Cond) (rm : Room) (av : List Value) (RS : va_W) (post : Int64 → Prop) : Prop := Met l y ws rm (va_Pc av (zR D cI cB cP RS)) (vp_Sl post) 0 0 (fun _ => False)
def zPq (l : Launch) (D : va_G) (cI cB cP : ClassId) (y : MethodName) (ws : List Cond) (rm : Room) (av : List Value) (RS : va_W) (post : Option Nat → Prop) : Prop := Met l y ws rm (va_Pc av (zR D cI cB cP RS)) (va_Sq post) 0 0 (fun _ => False)
theorem z_ofR {l : Launch} {D : va_G} {cI cB cP : ClassId} {y : MethodName} {ws ws' : List Cond} {rm : Room} {av : List Value} {RS : va_W} {Qc : Array Value → State → Outcome → State → Prop} {cc : ByteArray} {maxL : Nat} {ret : Option FieldType} (hy : plainName y.cls = true) (hw : ws = Cond.code y cc maxL ret :: ws') (hlen : (lg_sl av).length ≤ maxL)
    (body : ∀ (p : Program) (e : Env) (s : State) (m : MethodId) (args : Array Value) (below : List Frame) (meth : Method) (c : Code) (ls : Array Slot), p.tables.exec = Jvm.exec → c.code = cc → c.maxLocals = maxL → meth.sig.returnType = ret → (∀ w ∈ ws, w.before args s = true) → s.vm.findClass y.cls = some m.cls → meth.locks = false → va_P D vwCl RS s.heap → va_K D vwCl (zT cI cB cP) s → zN s → lv_has ls maxL (lv_args 0 av) →
      W p l e rm s m args below meth c s.heap [] 0 0 (MQ below Qc args s 0 0 (fun _ => False)) (F0 m 0 ls [])) :
    Met l y ws rm (va_Pc av (zR D cI cB cP RS)) Qc 0 0 (fun _ => False) := by
  refine Met.ofW (cc := cc) (maxL := maxL) (ret := ret) hy hw ?_
  intro p e s m args below meth c s₁ B hml hv
  obtain ⟨rfl, hP, hK, hN⟩ := hv
  rw [lg_entry_eq]
  exact body p e s m _ below meth c _ B.exec B.bytes hml B.returns (atoms_spec (ws := ws) B.pre) (findClass_of_methodNamed B.named) B.notSynchronized hP hK hN (lv_entry av hlen)
section
variable {p : Program} {l : Launch} {e : Env} {R : Room} {s : State} {m : MethodId} {args : Array Value} {below : List Frame} {meth : Method} {c : Code} {H : Heap} {locs : List Loc} {cells slots : Nat} {Q : State → Prop} {pc : Nat} {ls : Array Slot} {rest st0 : List Value}
theorem z_iret {cc : ByteArray} {post : Int32 → Prop} {v : Int32} (hexec : p.tables.exec = Jvm.exec) (hb : c.code = cc) (hr : meth.sig.returnType = some .int) (hlocks : meth.locks = false) (hdg : decode cc pc = .ok (.ireturn, 1)) (hp : post v) :
    W p l e R s m args below meth c s.heap [] 0 0 (MQ below (vp_Si post) args s 0 0 (fun _ => False)) (F0 m pc ls [.int v]) :=
  W.iret hexec hb hr (fun t ht _ => ⟨v, rfl, hp, ht⟩) (fun q hq => absurd hq List.not_mem_nil) hdg hlocks
theorem z_zret {cc : ByteArray} {post : Int32 → Prop} {v : Int32} (hexec : p.tables.exec = Jvm.exec) (hb : c.code = cc) (hr : meth.sig.returnType = some .boolean) (hlocks : meth.locks = false) (hn : narrow .boolean (.int v) = .int v) (hdg : decode cc pc = .ok (.ireturn, 1)) (hp : post v) :
    W p l e R s m args below meth c s.heap [] 0 0 (MQ below (vp_Si post) args s 0 0 (fun _ => False)) (F0 m pc ls [.int v]) :=
  W.zret hexec hb hr hn (fun t ht _ => ⟨v, rfl, hp, ht⟩) (fun q hq => absurd hq List.not_mem_nil) hdg hlocks
theorem z_lret {cc : ByteArray} {post : Int64 → Prop} {v : Int64} (hexec : p.tables.exec = Jvm.exec) (hb : c.code = cc) (hr : meth.sig.returnType = some .long) (hlocks : meth.locks = false) (hdg : decode cc pc = .ok (.lreturn, 1)) (hp : post v) :
    W p l e R s m args below meth c s.heap [] 0 0 (MQ below (vp_Sl post) args s 0 0 (fun _ => False)) (F0 m pc ls [.long v]) :=
  W.lret hexec hb hr (fun t ht _ => ⟨v, rfl, hp, ht⟩) (fun q hq => absurd hq List.not_mem_nil) hdg hlocks
theorem z_aret {cc : ByteArray} {post : Option Nat → Prop} {v : Option Nat} {C : String} (hexec : p.tables.exec = Jvm.exec) (hb : c.code = cc) (hr : meth.sig.returnType = some (.object C)) (hlocks : meth.locks = false) (hdg : decode cc pc = .ok (.areturn, 1)) (hp : post v) :
    W p l e R s m args below meth c s.heap [] 0 0 (MQ below (va_Sq post) args s 0 0 (fun _ => False)) (F0 m pc ls [va_rf v]) :=
  W.aret hexec hb hr (Or.inl ⟨_, rfl⟩) (va_rf_or v) (fun t ht _ => ⟨v, rfl, hp, ht⟩) (fun q hq => absurd hq List.not_mem_nil) hdg hlocks
/-- what every call asks of the reading callee's world -/
theorem z_runV {D : va_G} {cI cB cP : ClassId} {y : MethodName} {bytes cc : ByteArray} {maxL nL n index : Nat} {ret : Option FieldType} {ws ws' : List Cond} {fr lo : Nat} {Qc : Array Value → State → Outcome → State → Prop} {Ts : List Cond} {own C : String} {b : Addr} {As : List Value} {RS : va_W}
    (hx : p.tables.exec = Jvm.exec) (hb : c.code = cc) (hml : c.maxLocals = nL) (hown : s.vm.findClass own = some m.cls) (hts : ∀ w ∈ Ts, w.before args s = true) (hK : va_K D vwCl (zT cI cB cP) s) (hN : zN s) (hlz : ls.size = nL)
    (hM : Met l y ws { frames := fr, cells := 0, slots := 0, locals := lo } (va_Pc (.ref b :: As) (zR D cI cB cP RS)) Qc 0 0 (fun _ => False)) (hG : GoodIn Ts (wsV own index C y ws)) (hw : ws = Cond.code y bytes maxL ret :: ws')
    (hd : y.cls = C ∧ y.cls ≠ "java/lang/invoke/MethodHandle" ∧ y.cls ≠ "java/lang/invoke/VarHandle" ∧ (parseMethodDescriptor y.desc).map (fun d => d.parameters.length) = some n) (hn : As.length = n) (hR1 : fr + 1 ≤ R.frames) (hR2 : 8 + (maxL + 11) + lo ≤ R.locals)
    (hP : va_P D vwCl RS H) (hrc : ∃ cell : Cell, H[b]? = some cell ∧ cell.vm.isStatics = false ∧ s.vm.findClass C = some cell.cls) (hst : st0 = As.reverse ++ .ref b :: rest) (hW : (rest.map fun v => v.category).sum ≤ 8) (hdg : decode cc pc = .ok (.invokevirtual index, 3)) (hf : cells ≤ R.cells ∧ slots ≤ R.slots) :
    CallRun p l e R s m args below meth c H locs cells slots 0 0 (F0 m pc ls st0) rest (Qc (Value.ref b :: As).toArray) (fun _ => False) :=
  W.runV ⟨hx, hb, hml, hown, hts⟩ hM (cwV n hts hG hw rfl rfl hd ⟨hR1, hR2⟩) ⟨zR_blind, hrc, zR_pre hP hK hN⟩ rfl hn hlz hst (lv_room hW) hdg hf
theorem z_runS {D : va_G} {cI cB cP : ClassId} {y : MethodName} {bytes cc : ByteArray} {maxL nL n index : Nat} {ret : Option FieldType} {ws ws' : List Cond} {fr lo : Nat} {Qc : Array Value → State → Outcome → State → Prop} {Ts : List Cond} {own C : String} {As : List Value} {RS : va_W}
    (hx : p.tables.exec = Jvm.exec) (hb : c.code = cc) (hml : c.maxLocals = nL) (hown : s.vm.findClass own = some m.cls) (hts : ∀ w ∈ Ts, w.before args s = true) (hK : va_K D vwCl (zT cI cB cP) s) (hN : zN s) (hlz : ls.size = nL)
    (hM : Met l y ws { frames := fr, cells := 0, slots := 0, locals := lo } (va_Pc As (zR D cI cB cP RS)) Qc 0 0 (fun _ => False)) (hG : GoodIn Ts (va_wsS own index y ws)) (hw : ws = Cond.code y bytes maxL ret :: ws')
    (hd : y.cls = C ∧ y.cls ≠ "java/lang/invoke/MethodHandle" ∧ y.cls ≠ "java/lang/invoke/VarHandle" ∧ (parseMethodDescriptor y.desc).map (fun d => d.parameters.length) = some n) (hn : As.length = n) (hR1 : fr + 1 ≤ R.frames) (hR2 : 8 + (maxL + 11) + lo ≤ R.locals)
    (hP : va_P D vwCl RS H) (hst : st0 = As.reverse ++ rest) (hW : (rest.map fun v => v.category).sum ≤ 8) (hdg : decode cc pc = .ok (.invokestatic index, 3)) (hf : cells ≤ R.cells ∧ slots ≤ R.slots) :
    CallRun p l e R s m args below meth c H locs cells slots 0 0 (F0 m pc ls st0) rest (Qc As.toArray) (fun _ => False) :=
  W.runS ⟨hx, hb, hml, hown, hts⟩ hM (va_cwS n hts hG hw rfl rfl hd.2 ⟨hR1, hR2⟩) ⟨zR_blind, zR_pre hP hK hN⟩ rfl hn hlz hst (lv_room hW) hdg hf
theorem z_runVN {D : va_G} {cI cB cP : ClassId} {y : MethodName} {bytes cc : ByteArray} {maxL nL n index : Nat} {ret : Option FieldType} {ws ws' : List Cond} {fr lo : Nat} {Qc : Array Value → State → Outcome → State → Prop} {Ts : List Cond} {own C host : String} {b : Addr} {As : List Value} {RS : va_W}
    (hx : p.tables.exec = Jvm.exec) (hb : c.code = cc) (hml : c.maxLocals = nL) (hown : s.vm.findClass own = some m.cls) (hts : ∀ w ∈ Ts, w.before args s = true) (hK : va_K D vwCl (zT cI cB cP) s) (hN : zN s) (hlz : ls.size = nL)
    (hM : Met l y ws { frames := fr, cells := 0, slots := 0, locals := lo } (va_Pc (.ref b :: As) (zR D cI cB cP RS)) Qc 0 0 (fun _ => False)) (hG : GoodIn Ts ws) (hw : ws = Cond.code y bytes maxL ret :: ws') (k : Nat) (hk : zNW[k]? = some (.methodLinkNest own index y host)) (hini : Cond.initialized y.cls ∈ Ts) (hins : Cond.instanceMethod y ∈ Ts) (hsel : Cond.selects C y y ∈ Ts)
    (hd : y.cls = C ∧ y.cls ≠ "java/lang/invoke/MethodHandle" ∧ y.cls ≠ "java/lang/invoke/VarHandle" ∧ (parseMethodDescriptor y.desc).map (fun d => d.parameters.length) = some n) (hn : As.length = n) (hR1 : fr + 1 ≤ R.frames) (hR2 : 8 + (maxL + 11) + lo ≤ R.locals)
    (hP : va_P D vwCl RS H) (hrc : ∃ cell : Cell, H[b]? = some cell ∧ cell.vm.isStatics = false ∧ s.vm.findClass C = some cell.cls) (hst : st0 = As.reverse ++ .ref b :: rest) (hW : (rest.map fun v => v.category).sum ≤ 8) (hdg : decode cc pc = .ok (.invokevirtual index, 3)) (hf : cells ≤ R.cells ∧ slots ≤ R.slots) :
    CallRun p l e R s m args below meth c H locs cells slots 0 0 (F0 m pc ls st0) rest (Qc (Value.ref b :: As).toArray) (fun _ => False) :=
  va_Run.run (va_runVN (host := host) ⟨hx, hb, hml, hown, hts⟩ hM ⟨va_cnB n hts hG hw rfl rfl (hN.n k hk) (hts _ hini) hd.2 ⟨hR1, hR2⟩, hts _ hins, hts _ hsel⟩ ⟨zR_blind, hrc, zR_pre hP hK hN⟩ rfl hn hlz hst (lv_room hW) hdg hf)
theorem z_runSN {D : va_G} {cI cB cP : ClassId} {y : MethodName} {bytes cc : ByteArray} {maxL nL n index : Nat} {ret : Option FieldType} {ws ws' : List Cond} {fr lo : Nat} {Qc : Array Value → State → Outcome → State → Prop} {Ts : List Cond} {own C host : String} {As : List Value} {RS : va_W}
    (hx : p.tables.exec = Jvm.exec) (hb : c.code = cc) (hml : c.maxLocals = nL) (hown : s.vm.findClass own = some m.cls) (hts : ∀ w ∈ Ts, w.before args s = true) (hK : va_K D vwCl (zT cI cB cP) s) (hN : zN s) (hlz : ls.size = nL)
    (hM : Met l y ws { frames := fr, cells := 0, slots := 0, locals := lo } (va_Pc As (zR D cI cB cP RS)) Qc 0 0 (fun _ => False)) (hG : GoodIn Ts ws) (hw : ws = Cond.code y bytes maxL ret :: ws') (k : Nat) (hk : zNW[k]? = some (.methodLinkNest own index y host)) (hini : Cond.initialized y.cls ∈ Ts) (hstt : Cond.static y ∈ Ts)
    (hd : y.cls = C ∧ y.cls ≠ "java/lang/invoke/MethodHandle" ∧ y.cls ≠ "java/lang/invoke/VarHandle" ∧ (parseMethodDescriptor y.desc).map (fun d => d.parameters.length) = some n) (hn : As.length = n) (hR1 : fr + 1 ≤ R.frames) (hR2 : 8 + (maxL + 11) + lo ≤ R.locals)
    (hP : va_P D vwCl RS H) (hst : st0 = As.reverse ++ rest) (hW : (rest.map fun v => v.category).sum ≤ 8) (hdg : decode cc pc = .ok (.invokestatic index, 3)) (hf : cells ≤ R.cells ∧ slots ≤ R.slots) :
    CallRun p l e R s m args below meth c H locs cells slots 0 0 (F0 m pc ls st0) rest (Qc As.toArray) (fun _ => False) :=
  va_Run.run (va_runSN (host := host) ⟨hx, hb, hml, hown, hts⟩ hM ⟨va_cnB n hts hG hw rfl rfl (hN.n k hk) (hts _ hini) hd.2 ⟨hR1, hR2⟩, hts _ hstt, trivial⟩ ⟨zR_blind, zR_pre hP hK hN⟩ rfl hn hlz hst (lv_room hW) hdg hf)
end

theorem zd_X0_init : yX0_init.cls = RX0 ∧ yX0_init.cls ≠ "java/lang/invoke/MethodHandle" ∧ yX0_init.cls ≠ "java/lang/invoke/VarHandle" ∧ (parseMethodDescriptor yX0_init.desc).map (fun d => d.parameters.length) = some 0 := by decide +kernel
theorem zd_X0_find : yX0_find.cls = RX0 ∧ yX0_find.cls ≠ "java/lang/invoke/MethodHandle" ∧ yX0_find.cls ≠ "java/lang/invoke/VarHandle" ∧ (parseMethodDescriptor yX0_find.desc).map (fun d => d.parameters.length) = some 6 := by decide +kernel
theorem zd_X0_follow : yX0_follow.cls = RX0 ∧ yX0_follow.cls ≠ "java/lang/invoke/MethodHandle" ∧ yX0_follow.cls ≠ "java/lang/invoke/VarHandle" ∧ (parseMethodDescriptor yX0_follow.desc).map (fun d => d.parameters.length) = some 6 := by decide +kernel
theorem zd_X1_init : yX1_init.cls = RX1 ∧ yX1_init.cls ≠ "java/lang/invoke/MethodHandle" ∧ yX1_init.cls ≠ "java/lang/invoke/VarHandle" ∧ (parseMethodDescriptor yX1_init.desc).map (fun d => d.parameters.length) = some 1 := by decide +kernel
theorem zd_X1_kind : yX1_kind.cls = RX1 ∧ yX1_kind.cls ≠ "java/lang/invoke/MethodHandle" ∧ yX1_kind.cls ≠ "java/lang/invoke/VarHandle" ∧ (parseMethodDescriptor yX1_kind.desc).map (fun d => d.parameters.length) = some 0 := by decide +kernel
theorem zd_X1_feels : yX1_feels.cls = RX1 ∧ yX1_feels.cls ≠ "java/lang/invoke/MethodHandle" ∧ yX1_feels.cls ≠ "java/lang/invoke/VarHandle" ∧ (parseMethodDescriptor yX1_feels.desc).map (fun d => d.parameters.length) = some 1 := by decide +kernel
theorem zd_X2_init : yX2_init.cls = RX2 ∧ yX2_init.cls ≠ "java/lang/invoke/MethodHandle" ∧ yX2_init.cls ≠ "java/lang/invoke/VarHandle" ∧ (parseMethodDescriptor yX2_init.desc).map (fun d => d.parameters.length) = some 1 := by decide +kernel
theorem zd_X2_kind : yX2_kind.cls = RX2 ∧ yX2_kind.cls ≠ "java/lang/invoke/MethodHandle" ∧ yX2_kind.cls ≠ "java/lang/invoke/VarHandle" ∧ (parseMethodDescriptor yX2_kind.desc).map (fun d => d.parameters.length) = some 0 := by decide +kernel
theorem zd_X2_feels : yX2_feels.cls = RX2 ∧ yX2_feels.cls ≠ "java/lang/invoke/MethodHandle" ∧ yX2_feels.cls ≠ "java/lang/invoke/VarHandle" ∧ (parseMethodDescriptor yX2_feels.desc).map (fun d => d.parameters.length) = some 1 := by decide +kernel
theorem zd_X3_init : yX3_init.cls = RX3 ∧ yX3_init.cls ≠ "java/lang/invoke/MethodHandle" ∧ yX3_init.cls ≠ "java/lang/invoke/VarHandle" ∧ (parseMethodDescriptor yX3_init.desc).map (fun d => d.parameters.length) = some 1 := by decide +kernel
theorem zd_X3_kind : yX3_kind.cls = RX3 ∧ yX3_kind.cls ≠ "java/lang/invoke/MethodHandle" ∧ yX3_kind.cls ≠ "java/lang/invoke/VarHandle" ∧ (parseMethodDescriptor yX3_kind.desc).map (fun d => d.parameters.length) = some 0 := by decide +kernel
theorem zd_X3_feels : yX3_feels.cls = RX3 ∧ yX3_feels.cls ≠ "java/lang/invoke/MethodHandle" ∧ yX3_feels.cls ≠ "java/lang/invoke/VarHandle" ∧ (parseMethodDescriptor yX3_feels.desc).map (fun d => d.parameters.length) = some 1 := by decide +kernel
theorem zd_X4_init : yX4_init.cls = RX4 ∧ yX4_init.cls ≠ "java/lang/invoke/MethodHandle" ∧ yX4_init.cls ≠ "java/lang/invoke/VarHandle" ∧ (parseMethodDescriptor yX4_init.desc).map (fun d => d.parameters.length) = some 0 := by decide +kernel
theorem zd_X4_find : yX4_find.cls = RX4 ∧ yX4_find.cls ≠ "java/lang/invoke/MethodHandle" ∧ yX4_find.cls ≠ "java/lang/invoke/VarHandle" ∧ (parseMethodDescriptor yX4_find.desc).map (fun d => d.parameters.length) = some 5 := by decide +kernel
theorem zd_X4_arrange : yX4_arrange.cls = RX4 ∧ yX4_arrange.cls ≠ "java/lang/invoke/MethodHandle" ∧ yX4_arrange.cls ≠ "java/lang/invoke/VarHandle" ∧ (parseMethodDescriptor yX4_arrange.desc).map (fun d => d.parameters.length) = some 6 := by decide +kernel
theorem zd_X4_meanFrom : yX4_meanFrom.cls = RX4 ∧ yX4_meanFrom.cls ≠ "java/lang/invoke/MethodHandle" ∧ yX4_meanFrom.cls ≠ "java/lang/invoke/VarHandle" ∧ (parseMethodDescriptor yX4_meanFrom.desc).map (fun d => d.parameters.length) = some 6 := by decide +kernel
theorem zd_X4_lessonAt : yX4_lessonAt.cls = RX4 ∧ yX4_lessonAt.cls ≠ "java/lang/invoke/MethodHandle" ∧ yX4_lessonAt.cls ≠ "java/lang/invoke/VarHandle" ∧ (parseMethodDescriptor yX4_lessonAt.desc).map (fun d => d.parameters.length) = some 1 := by decide +kernel
theorem zd_X5_init : yX5_init.cls = RX5 ∧ yX5_init.cls ≠ "java/lang/invoke/MethodHandle" ∧ yX5_init.cls ≠ "java/lang/invoke/VarHandle" ∧ (parseMethodDescriptor yX5_init.desc).map (fun d => d.parameters.length) = some 0 := by decide +kernel
theorem zd_X5_add : yX5_add.cls = RX5 ∧ yX5_add.cls ≠ "java/lang/invoke/MethodHandle" ∧ yX5_add.cls ≠ "java/lang/invoke/VarHandle" ∧ (parseMethodDescriptor yX5_add.desc).map (fun d => d.parameters.length) = some 1 := by decide +kernel
theorem zd_X5_codeAt : yX5_codeAt.cls = RX5 ∧ yX5_codeAt.cls ≠ "java/lang/invoke/MethodHandle" ∧ yX5_codeAt.cls ≠ "java/lang/invoke/VarHandle" ∧ (parseMethodDescriptor yX5_codeAt.desc).map (fun d => d.parameters.length) = some 1 := by decide +kernel
theorem zd_X5_digitAt : yX5_digitAt.cls = RX5 ∧ yX5_digitAt.cls ≠ "java/lang/invoke/MethodHandle" ∧ yX5_digitAt.cls ≠ "java/lang/invoke/VarHandle" ∧ (parseMethodDescriptor yX5_digitAt.desc).map (fun d => d.parameters.length) = some 1 := by decide +kernel
theorem zd_X5_firstFault : yX5_firstFault.cls = RX5 ∧ yX5_firstFault.cls ≠ "java/lang/invoke/MethodHandle" ∧ yX5_firstFault.cls ≠ "java/lang/invoke/VarHandle" ∧ (parseMethodDescriptor yX5_firstFault.desc).map (fun d => d.parameters.length) = some 0 := by decide +kernel
theorem zd_X5_isLimit : yX5_isLimit.cls = RX5 ∧ yX5_isLimit.cls ≠ "java/lang/invoke/MethodHandle" ∧ yX5_isLimit.cls ≠ "java/lang/invoke/VarHandle" ∧ (parseMethodDescriptor yX5_isLimit.desc).map (fun d => d.parameters.length) = some 2 := by decide +kernel
theorem zd_X5_isOfLesson : yX5_isOfLesson.cls = RX5 ∧ yX5_isOfLesson.cls ≠ "java/lang/invoke/MethodHandle" ∧ yX5_isOfLesson.cls ≠ "java/lang/invoke/VarHandle" ∧ (parseMethodDescriptor yX5_isOfLesson.desc).map (fun d => d.parameters.length) = some 1 := by decide +kernel
theorem zd_X5_isDigit : yX5_isDigit.cls = RX5 ∧ yX5_isDigit.cls ≠ "java/lang/invoke/MethodHandle" ∧ yX5_isDigit.cls ≠ "java/lang/invoke/VarHandle" ∧ (parseMethodDescriptor yX5_isDigit.desc).map (fun d => d.parameters.length) = some 3 := by decide +kernel
theorem zd_X5_isWhole : yX5_isWhole.cls = RX5 ∧ yX5_isWhole.cls ≠ "java/lang/invoke/MethodHandle" ∧ yX5_isWhole.cls ≠ "java/lang/invoke/VarHandle" ∧ (parseMethodDescriptor yX5_isWhole.desc).map (fun d => d.parameters.length) = some 0 := by decide +kernel
theorem zd_X6_init : yX6_init.cls = RX6 ∧ yX6_init.cls ≠ "java/lang/invoke/MethodHandle" ∧ yX6_init.cls ≠ "java/lang/invoke/VarHandle" ∧ (parseMethodDescriptor yX6_init.desc).map (fun d => d.parameters.length) = some 1 := by decide +kernel
theorem zd_X6_kind : yX6_kind.cls = RX6 ∧ yX6_kind.cls ≠ "java/lang/invoke/MethodHandle" ∧ yX6_kind.cls ≠ "java/lang/invoke/VarHandle" ∧ (parseMethodDescriptor yX6_kind.desc).map (fun d => d.parameters.length) = some 0 := by decide +kernel
theorem zd_X6_feels : yX6_feels.cls = RX6 ∧ yX6_feels.cls ≠ "java/lang/invoke/MethodHandle" ∧ yX6_feels.cls ≠ "java/lang/invoke/VarHandle" ∧ (parseMethodDescriptor yX6_feels.desc).map (fun d => d.parameters.length) = some 1 := by decide +kernel
theorem zd_X6_isOf : yX6_isOf.cls = RX6 ∧ yX6_isOf.cls ≠ "java/lang/invoke/MethodHandle" ∧ yX6_isOf.cls ≠ "java/lang/invoke/VarHandle" ∧ (parseMethodDescriptor yX6_isOf.desc).map (fun d => d.parameters.length) = some 1 := by decide +kernel
theorem zd_X7_init : yX7_init.cls = RX7 ∧ yX7_init.cls ≠ "java/lang/invoke/MethodHandle" ∧ yX7_init.cls ≠ "java/lang/invoke/VarHandle" ∧ (parseMethodDescriptor yX7_init.desc).map (fun d => d.parameters.length) = some 1 := by decide +kernel
theorem zd_X7_kind : yX7_kind.cls = RX7 ∧ yX7_kind.cls ≠ "java/lang/invoke/MethodHandle" ∧ yX7_kind.cls ≠ "java/lang/invoke/VarHandle" ∧ (parseMethodDescriptor yX7_kind.desc).map (fun d => d.parameters.length) = some 0 := by decide +kernel
theorem zd_X7_feels : yX7_feels.cls = RX7 ∧ yX7_feels.cls ≠ "java/lang/invoke/MethodHandle" ∧ yX7_feels.cls ≠ "java/lang/invoke/VarHandle" ∧ (parseMethodDescriptor yX7_feels.desc).map (fun d => d.parameters.length) = some 1 := by decide +kernel
theorem zd_X8_init : yX8_init.cls = RX8 ∧ yX8_init.cls ≠ "java/lang/invoke/MethodHandle" ∧ yX8_init.cls ≠ "java/lang/invoke/VarHandle" ∧ (parseMethodDescriptor yX8_init.desc).map (fun d => d.parameters.length) = some 0 := by decide +kernel
theorem zd_X8_clear : yX8_clear.cls = RX8 ∧ yX8_clear.cls ≠ "java/lang/invoke/MethodHandle" ∧ yX8_clear.cls ≠ "java/lang/invoke/VarHandle" ∧ (parseMethodDescriptor yX8_clear.desc).map (fun d => d.parameters.length) = some 0 := by decide +kernel
theorem zd_X8_copyFrom : yX8_copyFrom.cls = RX8 ∧ yX8_copyFrom.cls ≠ "java/lang/invoke/MethodHandle" ∧ yX8_copyFrom.cls ≠ "java/lang/invoke/VarHandle" ∧ (parseMethodDescriptor yX8_copyFrom.desc).map (fun d => d.parameters.length) = some 1 := by decide +kernel
theorem zd_X8_addPrince : yX8_addPrince.cls = RX8 ∧ yX8_addPrince.cls ≠ "java/lang/invoke/MethodHandle" ∧ yX8_addPrince.cls ≠ "java/lang/invoke/VarHandle" ∧ (parseMethodDescriptor yX8_addPrince.desc).map (fun d => d.parameters.length) = some 0 := by decide +kernel
theorem zd_X8_addHeard : yX8_addHeard.cls = RX8 ∧ yX8_addHeard.cls ≠ "java/lang/invoke/MethodHandle" ∧ yX8_addHeard.cls ≠ "java/lang/invoke/VarHandle" ∧ (parseMethodDescriptor yX8_addHeard.desc).map (fun d => d.parameters.length) = some 3 := by decide +kernel
theorem zd_X8_fondOf : yX8_fondOf.cls = RX8 ∧ yX8_fondOf.cls ≠ "java/lang/invoke/MethodHandle" ∧ yX8_fondOf.cls ≠ "java/lang/invoke/VarHandle" ∧ (parseMethodDescriptor yX8_fondOf.desc).map (fun d => d.parameters.length) = some 2 := by decide +kernel
theorem zd_X8_setFond : yX8_setFond.cls = RX8 ∧ yX8_setFond.cls ≠ "java/lang/invoke/MethodHandle" ∧ yX8_setFond.cls ≠ "java/lang/invoke/VarHandle" ∧ (parseMethodDescriptor yX8_setFond.desc).map (fun d => d.parameters.length) = some 3 := by decide +kernel
theorem zd_X8_boyOf : yX8_boyOf.cls = RX8 ∧ yX8_boyOf.cls ≠ "java/lang/invoke/MethodHandle" ∧ yX8_boyOf.cls ≠ "java/lang/invoke/VarHandle" ∧ (parseMethodDescriptor yX8_boyOf.desc).map (fun d => d.parameters.length) = some 1 := by decide +kernel
theorem zd_X8_setBoy : yX8_setBoy.cls = RX8 ∧ yX8_setBoy.cls ≠ "java/lang/invoke/MethodHandle" ∧ yX8_setBoy.cls ≠ "java/lang/invoke/VarHandle" ∧ (parseMethodDescriptor yX8_setBoy.desc).map (fun d => d.parameters.length) = some 2 := by decide +kernel
theorem zd_X8_fondOfHisBoy : yX8_fondOfHisBoy.cls = RX8 ∧ yX8_fondOfHisBoy.cls ≠ "java/lang/invoke/MethodHandle" ∧ yX8_fondOfHisBoy.cls ≠ "java/lang/invoke/VarHandle" ∧ (parseMethodDescriptor yX8_fondOfHisBoy.desc).map (fun d => d.parameters.length) = some 1 := by decide +kernel
theorem zd_X8_stripesOf : yX8_stripesOf.cls = RX8 ∧ yX8_stripesOf.cls ≠ "java/lang/invoke/MethodHandle" ∧ yX8_stripesOf.cls ≠ "java/lang/invoke/VarHandle" ∧ (parseMethodDescriptor yX8_stripesOf.desc).map (fun d => d.parameters.length) = some 1 := by decide +kernel
theorem zd_X8_allStripes : yX8_allStripes.cls = RX8 ∧ yX8_allStripes.cls ≠ "java/lang/invoke/MethodHandle" ∧ yX8_allStripes.cls ≠ "java/lang/invoke/VarHandle" ∧ (parseMethodDescriptor yX8_allStripes.desc).map (fun d => d.parameters.length) = some 0 := by decide +kernel
theorem zd_X8_learntBy : yX8_learntBy.cls = RX8 ∧ yX8_learntBy.cls ≠ "java/lang/invoke/MethodHandle" ∧ yX8_learntBy.cls ≠ "java/lang/invoke/VarHandle" ∧ (parseMethodDescriptor yX8_learntBy.desc).map (fun d => d.parameters.length) = some 1 := by decide +kernel
theorem zd_X8_whoLearnt : yX8_whoLearnt.cls = RX8 ∧ yX8_whoLearnt.cls ≠ "java/lang/invoke/MethodHandle" ∧ yX8_whoLearnt.cls ≠ "java/lang/invoke/VarHandle" ∧ (parseMethodDescriptor yX8_whoLearnt.desc).map (fun d => d.parameters.length) = some 1 := by decide +kernel
theorem zd_X8_allLearnt : yX8_allLearnt.cls = RX8 ∧ yX8_allLearnt.cls ≠ "java/lang/invoke/MethodHandle" ∧ yX8_allLearnt.cls ≠ "java/lang/invoke/VarHandle" ∧ (parseMethodDescriptor yX8_allLearnt.desc).map (fun d => d.parameters.length) = some 0 := by decide +kernel
theorem zd_X8_learn : yX8_learn.cls = RX8 ∧ yX8_learn.cls ≠ "java/lang/invoke/MethodHandle" ∧ yX8_learn.cls ≠ "java/lang/invoke/VarHandle" ∧ (parseMethodDescriptor yX8_learn.desc).map (fun d => d.parameters.length) = some 2 := by decide +kernel
theorem zd_X8_beat : yX8_beat.cls = RX8 ∧ yX8_beat.cls ≠ "java/lang/invoke/MethodHandle" ∧ yX8_beat.cls ≠ "java/lang/invoke/VarHandle" ∧ (parseMethodDescriptor yX8_beat.desc).map (fun d => d.parameters.length) = some 3 := by decide +kernel
theorem zd_X9_init : yX9_init.cls = RX9 ∧ yX9_init.cls ≠ "java/lang/invoke/MethodHandle" ∧ yX9_init.cls ≠ "java/lang/invoke/VarHandle" ∧ (parseMethodDescriptor yX9_init.desc).map (fun d => d.parameters.length) = some 0 := by decide +kernel
theorem zd_X9_read : yX9_read.cls = RX9 ∧ yX9_read.cls ≠ "java/lang/invoke/MethodHandle" ∧ yX9_read.cls ≠ "java/lang/invoke/VarHandle" ∧ (parseMethodDescriptor yX9_read.desc).map (fun d => d.parameters.length) = some 1 := by decide +kernel
theorem zd_X9_isRead : yX9_isRead.cls = RX9 ∧ yX9_isRead.cls ≠ "java/lang/invoke/MethodHandle" ∧ yX9_isRead.cls ≠ "java/lang/invoke/VarHandle" ∧ (parseMethodDescriptor yX9_isRead.desc).map (fun d => d.parameters.length) = some 0 := by decide +kernel
theorem zd_X9_has : yX9_has.cls = RX9 ∧ yX9_has.cls ≠ "java/lang/invoke/MethodHandle" ∧ yX9_has.cls ≠ "java/lang/invoke/VarHandle" ∧ (parseMethodDescriptor yX9_has.desc).map (fun d => d.parameters.length) = some 1 := by decide +kernel
theorem zd_X9_hardOf : yX9_hardOf.cls = RX9 ∧ yX9_hardOf.cls ≠ "java/lang/invoke/MethodHandle" ∧ yX9_hardOf.cls ≠ "java/lang/invoke/VarHandle" ∧ (parseMethodDescriptor yX9_hardOf.desc).map (fun d => d.parameters.length) = some 1 := by decide +kernel
theorem zd_X9_blowsOf : yX9_blowsOf.cls = RX9 ∧ yX9_blowsOf.cls ≠ "java/lang/invoke/MethodHandle" ∧ yX9_blowsOf.cls ≠ "java/lang/invoke/VarHandle" ∧ (parseMethodDescriptor yX9_blowsOf.desc).map (fun d => d.parameters.length) = some 1 := by decide +kernel
theorem zd_X9_tenthsFor : yX9_tenthsFor.cls = RX9 ∧ yX9_tenthsFor.cls ≠ "java/lang/invoke/MethodHandle" ∧ yX9_tenthsFor.cls ≠ "java/lang/invoke/VarHandle" ∧ (parseMethodDescriptor yX9_tenthsFor.desc).map (fun d => d.parameters.length) = some 3 := by decide +kernel
theorem zd_X10_init : yX10_init.cls = RX10 ∧ yX10_init.cls ≠ "java/lang/invoke/MethodHandle" ∧ yX10_init.cls ≠ "java/lang/invoke/VarHandle" ∧ (parseMethodDescriptor yX10_init.desc).map (fun d => d.parameters.length) = some 0 := by decide +kernel
theorem zd_X10_letter : yX10_letter.cls = RX10 ∧ yX10_letter.cls ≠ "java/lang/invoke/MethodHandle" ∧ yX10_letter.cls ≠ "java/lang/invoke/VarHandle" ∧ (parseMethodDescriptor yX10_letter.desc).map (fun d => d.parameters.length) = some 1 := by decide +kernel
theorem zd_X10_blank : yX10_blank.cls = RX10 ∧ yX10_blank.cls ≠ "java/lang/invoke/MethodHandle" ∧ yX10_blank.cls ≠ "java/lang/invoke/VarHandle" ∧ (parseMethodDescriptor yX10_blank.desc).map (fun d => d.parameters.length) = some 0 := by decide +kernel
theorem zd_X10_fault : yX10_fault.cls = RX10 ∧ yX10_fault.cls ≠ "java/lang/invoke/MethodHandle" ∧ yX10_fault.cls ≠ "java/lang/invoke/VarHandle" ∧ (parseMethodDescriptor yX10_fault.desc).map (fun d => d.parameters.length) = some 0 := by decide +kernel
theorem zd_X10_school : yX10_school.cls = RX10 ∧ yX10_school.cls ≠ "java/lang/invoke/MethodHandle" ∧ yX10_school.cls ≠ "java/lang/invoke/VarHandle" ∧ (parseMethodDescriptor yX10_school.desc).map (fun d => d.parameters.length) = some 0 := by decide +kernel
theorem zd_X10_lesson : yX10_lesson.cls = RX10 ∧ yX10_lesson.cls ≠ "java/lang/invoke/MethodHandle" ∧ yX10_lesson.cls ≠ "java/lang/invoke/VarHandle" ∧ (parseMethodDescriptor yX10_lesson.desc).map (fun d => d.parameters.length) = some 2 := by decide +kernel
theorem zd_X10_stripes : yX10_stripes.cls = RX10 ∧ yX10_stripes.cls ≠ "java/lang/invoke/MethodHandle" ∧ yX10_stripes.cls ≠ "java/lang/invoke/VarHandle" ∧ (parseMethodDescriptor yX10_stripes.desc).map (fun d => d.parameters.length) = some 1 := by decide +kernel
theorem zd_X10_prince : yX10_prince.cls = RX10 ∧ yX10_prince.cls ≠ "java/lang/invoke/MethodHandle" ∧ yX10_prince.cls ≠ "java/lang/invoke/VarHandle" ∧ (parseMethodDescriptor yX10_prince.desc).map (fun d => d.parameters.length) = some 2 := by decide +kernel
theorem zd_X10_about : yX10_about.cls = RX10 ∧ yX10_about.cls ≠ "java/lang/invoke/MethodHandle" ∧ yX10_about.cls ≠ "java/lang/invoke/VarHandle" ∧ (parseMethodDescriptor yX10_about.desc).map (fun d => d.parameters.length) = some 2 := by decide +kernel
theorem zd_X10_as : yX10_as.cls = RX10 ∧ yX10_as.cls ≠ "java/lang/invoke/MethodHandle" ∧ yX10_as.cls ≠ "java/lang/invoke/VarHandle" ∧ (parseMethodDescriptor yX10_as.desc).map (fun d => d.parameters.length) = some 2 := by decide +kernel
theorem zd_X10_give : yX10_give.cls = RX10 ∧ yX10_give.cls ≠ "java/lang/invoke/MethodHandle" ∧ yX10_give.cls ≠ "java/lang/invoke/VarHandle" ∧ (parseMethodDescriptor yX10_give.desc).map (fun d => d.parameters.length) = some 2 := by decide +kernel
theorem zd_X10_fond : yX10_fond.cls = RX10 ∧ yX10_fond.cls ≠ "java/lang/invoke/MethodHandle" ∧ yX10_fond.cls ≠ "java/lang/invoke/VarHandle" ∧ (parseMethodDescriptor yX10_fond.desc).map (fun d => d.parameters.length) = some 3 := by decide +kernel
theorem zd_X10_tenths : yX10_tenths.cls = RX10 ∧ yX10_tenths.cls ≠ "java/lang/invoke/MethodHandle" ∧ yX10_tenths.cls ≠ "java/lang/invoke/VarHandle" ∧ (parseMethodDescriptor yX10_tenths.desc).map (fun d => d.parameters.length) = some 2 := by decide +kernel
theorem zd_X10_teach : yX10_teach.cls = RX10 ∧ yX10_teach.cls ≠ "java/lang/invoke/MethodHandle" ∧ yX10_teach.cls ≠ "java/lang/invoke/VarHandle" ∧ (parseMethodDescriptor yX10_teach.desc).map (fun d => d.parameters.length) = some 3 := by decide +kernel
theorem zd_X10_order : yX10_order.cls = RX10 ∧ yX10_order.cls ≠ "java/lang/invoke/MethodHandle" ∧ yX10_order.cls ≠ "java/lang/invoke/VarHandle" ∧ (parseMethodDescriptor yX10_order.desc).map (fun d => d.parameters.length) = some 2 := by decide +kernel
theorem zd_X10_match : yX10_match.cls = RX10 ∧ yX10_match.cls ≠ "java/lang/invoke/MethodHandle" ∧ yX10_match.cls ≠ "java/lang/invoke/VarHandle" ∧ (parseMethodDescriptor yX10_match.desc).map (fun d => d.parameters.length) = some 2 := by decide +kernel
theorem zd_X10_faults : yX10_faults.cls = RX10 ∧ yX10_faults.cls ≠ "java/lang/invoke/MethodHandle" ∧ yX10_faults.cls ≠ "java/lang/invoke/VarHandle" ∧ (parseMethodDescriptor yX10_faults.desc).map (fun d => d.parameters.length) = some 3 := by decide +kernel
theorem zd_X10_hear : yX10_hear.cls = RX10 ∧ yX10_hear.cls ≠ "java/lang/invoke/MethodHandle" ∧ yX10_hear.cls ≠ "java/lang/invoke/VarHandle" ∧ (parseMethodDescriptor yX10_hear.desc).map (fun d => d.parameters.length) = some 3 := by decide +kernel
theorem zd_X10_forget : yX10_forget.cls = RX10 ∧ yX10_forget.cls ≠ "java/lang/invoke/MethodHandle" ∧ yX10_forget.cls ≠ "java/lang/invoke/VarHandle" ∧ (parseMethodDescriptor yX10_forget.desc).map (fun d => d.parameters.length) = some 0 := by decide +kernel
theorem zd_X10_fondness : yX10_fondness.cls = RX10 ∧ yX10_fondness.cls ≠ "java/lang/invoke/MethodHandle" ∧ yX10_fondness.cls ≠ "java/lang/invoke/VarHandle" ∧ (parseMethodDescriptor yX10_fondness.desc).map (fun d => d.parameters.length) = some 1 := by decide +kernel
theorem zd_X10_schools : yX10_schools.cls = RX10 ∧ yX10_schools.cls ≠ "java/lang/invoke/MethodHandle" ∧ yX10_schools.cls ≠ "java/lang/invoke/VarHandle" ∧ (parseMethodDescriptor yX10_schools.desc).map (fun d => d.parameters.length) = some 3 := by decide +kernel
theorem zd_X10_image : yX10_image.cls = RX10 ∧ yX10_image.cls ≠ "java/lang/invoke/MethodHandle" ∧ yX10_image.cls ≠ "java/lang/invoke/VarHandle" ∧ (parseMethodDescriptor yX10_image.desc).map (fun d => d.parameters.length) = some 0 := by decide +kernel
theorem zd_X10_restore : yX10_restore.cls = RX10 ∧ yX10_restore.cls ≠ "java/lang/invoke/MethodHandle" ∧ yX10_restore.cls ≠ "java/lang/invoke/VarHandle" ∧ (parseMethodDescriptor yX10_restore.desc).map (fun d => d.parameters.length) = some 0 := by decide +kernel
theorem zd_X10_count : yX10_count.cls = RX10 ∧ yX10_count.cls ≠ "java/lang/invoke/MethodHandle" ∧ yX10_count.cls ≠ "java/lang/invoke/VarHandle" ∧ (parseMethodDescriptor yX10_count.desc).map (fun d => d.parameters.length) = some 1 := by decide +kernel
theorem zd_X10_digest : yX10_digest.cls = RX10 ∧ yX10_digest.cls ≠ "java/lang/invoke/MethodHandle" ∧ yX10_digest.cls ≠ "java/lang/invoke/VarHandle" ∧ (parseMethodDescriptor yX10_digest.desc).map (fun d => d.parameters.length) = some 0 := by decide +kernel
theorem zd_X10_mixPrince : yX10_mixPrince.cls = RX10 ∧ yX10_mixPrince.cls ≠ "java/lang/invoke/MethodHandle" ∧ yX10_mixPrince.cls ≠ "java/lang/invoke/VarHandle" ∧ (parseMethodDescriptor yX10_mixPrince.desc).map (fun d => d.parameters.length) = some 2 := by decide +kernel
theorem zd_X10_mix : yX10_mix.cls = RX10 ∧ yX10_mix.cls ≠ "java/lang/invoke/MethodHandle" ∧ yX10_mix.cls ≠ "java/lang/invoke/VarHandle" ∧ (parseMethodDescriptor yX10_mix.desc).map (fun d => d.parameters.length) = some 2 := by decide +kernel
theorem zd_X10_isBoy : yX10_isBoy.cls = RX10 ∧ yX10_isBoy.cls ≠ "java/lang/invoke/MethodHandle" ∧ yX10_isBoy.cls ≠ "java/lang/invoke/VarHandle" ∧ (parseMethodDescriptor yX10_isBoy.desc).map (fun d => d.parameters.length) = some 1 := by decide +kernel
theorem zd_X10_isKind : yX10_isKind.cls = RX10 ∧ yX10_isKind.cls ≠ "java/lang/invoke/MethodHandle" ∧ yX10_isKind.cls ≠ "java/lang/invoke/VarHandle" ∧ (parseMethodDescriptor yX10_isKind.desc).map (fun d => d.parameters.length) = some 1 := by decide +kernel
theorem zd_X10_isMeanOrRow : yX10_isMeanOrRow.cls = RX10 ∧ yX10_isMeanOrRow.cls ≠ "java/lang/invoke/MethodHandle" ∧ yX10_isMeanOrRow.cls ≠ "java/lang/invoke/VarHandle" ∧ (parseMethodDescriptor yX10_isMeanOrRow.desc).map (fun d => d.parameters.length) = some 2 := by decide +kernel
theorem zd_X10_isIn : yX10_isIn.cls = RX10 ∧ yX10_isIn.cls ≠ "java/lang/invoke/MethodHandle" ∧ yX10_isIn.cls ≠ "java/lang/invoke/VarHandle" ∧ (parseMethodDescriptor yX10_isIn.desc).map (fun d => d.parameters.length) = some 2 := by decide +kernel
theorem zd_X10_princeOf : yX10_princeOf.cls = RX10 ∧ yX10_princeOf.cls ≠ "java/lang/invoke/MethodHandle" ∧ yX10_princeOf.cls ≠ "java/lang/invoke/VarHandle" ∧ (parseMethodDescriptor yX10_princeOf.desc).map (fun d => d.parameters.length) = some 1 := by decide +kernel
theorem zd_X10_makePrince : yX10_makePrince.cls = RX10 ∧ yX10_makePrince.cls ≠ "java/lang/invoke/MethodHandle" ∧ yX10_makePrince.cls ≠ "java/lang/invoke/VarHandle" ∧ (parseMethodDescriptor yX10_makePrince.desc).map (fun d => d.parameters.length) = some 2 := by decide +kernel
theorem zd_X10_canBe : yX10_canBe.cls = RX10 ∧ yX10_canBe.cls ≠ "java/lang/invoke/MethodHandle" ∧ yX10_canBe.cls ≠ "java/lang/invoke/VarHandle" ∧ (parseMethodDescriptor yX10_canBe.desc).map (fun d => d.parameters.length) = some 2 := by decide +kernel
theorem zd_X10_fondAfterBlows : yX10_fondAfterBlows.cls = RX10 ∧ yX10_fondAfterBlows.cls ≠ "java/lang/invoke/MethodHandle" ∧ yX10_fondAfterBlows.cls ≠ "java/lang/invoke/VarHandle" ∧ (parseMethodDescriptor yX10_fondAfterBlows.desc).map (fun d => d.parameters.length) = some 3 := by decide +kernel
theorem zd_X10_setLesson : yX10_setLesson.cls = RX10 ∧ yX10_setLesson.cls ≠ "java/lang/invoke/MethodHandle" ∧ yX10_setLesson.cls ≠ "java/lang/invoke/VarHandle" ∧ (parseMethodDescriptor yX10_setLesson.desc).map (fun d => d.parameters.length) = some 4 := by decide +kernel
theorem zd_X10_bestMatch : yX10_bestMatch.cls = RX10 ∧ yX10_bestMatch.cls ≠ "java/lang/invoke/MethodHandle" ∧ yX10_bestMatch.cls ≠ "java/lang/invoke/VarHandle" ∧ (parseMethodDescriptor yX10_bestMatch.desc).map (fun d => d.parameters.length) = some 1 := by decide +kernel
theorem zd_X10_failTenths : yX10_failTenths.cls = RX10 ∧ yX10_failTenths.cls ≠ "java/lang/invoke/MethodHandle" ∧ yX10_failTenths.cls ≠ "java/lang/invoke/VarHandle" ∧ (parseMethodDescriptor yX10_failTenths.desc).map (fun d => d.parameters.length) = some 2 := by decide +kernel
theorem zd_X10_agreesWithHeard : yX10_agreesWithHeard.cls = RX10 ∧ yX10_agreesWithHeard.cls ≠ "java/lang/invoke/MethodHandle" ∧ yX10_agreesWithHeard.cls ≠ "java/lang/invoke/VarHandle" ∧ (parseMethodDescriptor yX10_agreesWithHeard.desc).map (fun d => d.parameters.length) = some 3 := by decide +kernel
theorem zd_X10_drawLessons : yX10_drawLessons.cls = RX10 ∧ yX10_drawLessons.cls ≠ "java/lang/invoke/MethodHandle" ∧ yX10_drawLessons.cls ≠ "java/lang/invoke/VarHandle" ∧ (parseMethodDescriptor yX10_drawLessons.desc).map (fun d => d.parameters.length) = some 2 := by decide +kernel
theorem zd_X10_nextSeed : yX10_nextSeed.cls = RX10 ∧ yX10_nextSeed.cls ≠ "java/lang/invoke/MethodHandle" ∧ yX10_nextSeed.cls ≠ "java/lang/invoke/VarHandle" ∧ (parseMethodDescriptor yX10_nextSeed.desc).map (fun d => d.parameters.length) = some 1 := by decide +kernel
theorem zd_X10_inLowestTerms : yX10_inLowestTerms.cls = RX10 ∧ yX10_inLowestTerms.cls ≠ "java/lang/invoke/MethodHandle" ∧ yX10_inLowestTerms.cls ≠ "java/lang/invoke/VarHandle" ∧ (parseMethodDescriptor yX10_inLowestTerms.desc).map (fun d => d.parameters.length) = some 3 := by decide +kernel
theorem zd_X10_commonDivisor : yX10_commonDivisor.cls = RX10 ∧ yX10_commonDivisor.cls ≠ "java/lang/invoke/MethodHandle" ∧ yX10_commonDivisor.cls ≠ "java/lang/invoke/VarHandle" ∧ (parseMethodDescriptor yX10_commonDivisor.desc).map (fun d => d.parameters.length) = some 2 := by decide +kernel
theorem zd_X10_at : yX10_at.cls = RX10 ∧ yX10_at.cls ≠ "java/lang/invoke/MethodHandle" ∧ yX10_at.cls ≠ "java/lang/invoke/VarHandle" ∧ (parseMethodDescriptor yX10_at.desc).map (fun d => d.parameters.length) = some 2 := by decide +kernel
theorem zd_X10_put : yX10_put.cls = RX10 ∧ yX10_put.cls ≠ "java/lang/invoke/MethodHandle" ∧ yX10_put.cls ≠ "java/lang/invoke/VarHandle" ∧ (parseMethodDescriptor yX10_put.desc).map (fun d => d.parameters.length) = some 3 := by decide +kernel
theorem zd_X10_copy : yX10_copy.cls = RX10 ∧ yX10_copy.cls ≠ "java/lang/invoke/MethodHandle" ∧ yX10_copy.cls ≠ "java/lang/invoke/VarHandle" ∧ (parseMethodDescriptor yX10_copy.desc).map (fun d => d.parameters.length) = some 2 := by decide +kernel
theorem zd_X10_fill : yX10_fill.cls = RX10 ∧ yX10_fill.cls ≠ "java/lang/invoke/MethodHandle" ∧ yX10_fill.cls ≠ "java/lang/invoke/VarHandle" ∧ (parseMethodDescriptor yX10_fill.desc).map (fun d => d.parameters.length) = some 2 := by decide +kernel
theorem zd_X10_sum : yX10_sum.cls = RX10 ∧ yX10_sum.cls ≠ "java/lang/invoke/MethodHandle" ∧ yX10_sum.cls ≠ "java/lang/invoke/VarHandle" ∧ (parseMethodDescriptor yX10_sum.desc).map (fun d => d.parameters.length) = some 1 := by decide +kernel
theorem zd_X11_init : yX11_init.cls = RX11 ∧ yX11_init.cls ≠ "java/lang/invoke/MethodHandle" ∧ yX11_init.cls ≠ "java/lang/invoke/VarHandle" ∧ (parseMethodDescriptor yX11_init.desc).map (fun d => d.parameters.length) = some 0 := by decide +kernel
theorem zd_X11_within : yX11_within.cls = RX11 ∧ yX11_within.cls ≠ "java/lang/invoke/MethodHandle" ∧ yX11_within.cls ≠ "java/lang/invoke/VarHandle" ∧ (parseMethodDescriptor yX11_within.desc).map (fun d => d.parameters.length) = some 3 := by decide +kernel
theorem zd_X11_has : yX11_has.cls = RX11 ∧ yX11_has.cls ≠ "java/lang/invoke/MethodHandle" ∧ yX11_has.cls ≠ "java/lang/invoke/VarHandle" ∧ (parseMethodDescriptor yX11_has.desc).map (fun d => d.parameters.length) = some 2 := by decide +kernel
theorem zd_X11_size : yX11_size.cls = RX11 ∧ yX11_size.cls ≠ "java/lang/invoke/MethodHandle" ∧ yX11_size.cls ≠ "java/lang/invoke/VarHandle" ∧ (parseMethodDescriptor yX11_size.desc).map (fun d => d.parameters.length) = some 1 := by decide +kernel
theorem zd_X11_lowest : yX11_lowest.cls = RX11 ∧ yX11_lowest.cls ≠ "java/lang/invoke/MethodHandle" ∧ yX11_lowest.cls ≠ "java/lang/invoke/VarHandle" ∧ (parseMethodDescriptor yX11_lowest.desc).map (fun d => d.parameters.length) = some 3 := by decide +kernel
theorem zd_X11_letter : yX11_letter.cls = RX11 ∧ yX11_letter.cls ≠ "java/lang/invoke/MethodHandle" ∧ yX11_letter.cls ≠ "java/lang/invoke/VarHandle" ∧ (parseMethodDescriptor yX11_letter.desc).map (fun d => d.parameters.length) = some 1 := by decide +kernel
theorem zd_X11_blank : yX11_blank.cls = RX11 ∧ yX11_blank.cls ≠ "java/lang/invoke/MethodHandle" ∧ yX11_blank.cls ≠ "java/lang/invoke/VarHandle" ∧ (parseMethodDescriptor yX11_blank.desc).map (fun d => d.parameters.length) = some 0 := by decide +kernel
theorem zd_X11_isFigure : yX11_isFigure.cls = RX11 ∧ yX11_isFigure.cls ≠ "java/lang/invoke/MethodHandle" ∧ yX11_isFigure.cls ≠ "java/lang/invoke/VarHandle" ∧ (parseMethodDescriptor yX11_isFigure.desc).map (fun d => d.parameters.length) = some 3 := by decide +kernel
theorem zd_X11_isSign : yX11_isSign.cls = RX11 ∧ yX11_isSign.cls ≠ "java/lang/invoke/MethodHandle" ∧ yX11_isSign.cls ≠ "java/lang/invoke/VarHandle" ∧ (parseMethodDescriptor yX11_isSign.desc).map (fun d => d.parameters.length) = some 2 := by decide +kernel
theorem zd_X11_read : yX11_read.cls = RX11 ∧ yX11_read.cls ≠ "java/lang/invoke/MethodHandle" ∧ yX11_read.cls ≠ "java/lang/invoke/VarHandle" ∧ (parseMethodDescriptor yX11_read.desc).map (fun d => d.parameters.length) = some 0 := by decide +kernel
theorem zd_X11_readLimit : yX11_readLimit.cls = RX11 ∧ yX11_readLimit.cls ≠ "java/lang/invoke/MethodHandle" ∧ yX11_readLimit.cls ≠ "java/lang/invoke/VarHandle" ∧ (parseMethodDescriptor yX11_readLimit.desc).map (fun d => d.parameters.length) = some 1 := by decide +kernel
theorem zd_X11_fault : yX11_fault.cls = RX11 ∧ yX11_fault.cls ≠ "java/lang/invoke/MethodHandle" ∧ yX11_fault.cls ≠ "java/lang/invoke/VarHandle" ∧ (parseMethodDescriptor yX11_fault.desc).map (fun d => d.parameters.length) = some 0 := by decide +kernel
theorem zd_X11_school : yX11_school.cls = RX11 ∧ yX11_school.cls ≠ "java/lang/invoke/MethodHandle" ∧ yX11_school.cls ≠ "java/lang/invoke/VarHandle" ∧ (parseMethodDescriptor yX11_school.desc).map (fun d => d.parameters.length) = some 0 := by decide +kernel
theorem zd_X11_isLesson : yX11_isLesson.cls = RX11 ∧ yX11_isLesson.cls ≠ "java/lang/invoke/MethodHandle" ∧ yX11_isLesson.cls ≠ "java/lang/invoke/VarHandle" ∧ (parseMethodDescriptor yX11_isLesson.desc).map (fun d => d.parameters.length) = some 1 := by decide +kernel
theorem zd_X11_isBoy : yX11_isBoy.cls = RX11 ∧ yX11_isBoy.cls ≠ "java/lang/invoke/MethodHandle" ∧ yX11_isBoy.cls ≠ "java/lang/invoke/VarHandle" ∧ (parseMethodDescriptor yX11_isBoy.desc).map (fun d => d.parameters.length) = some 1 := by decide +kernel
theorem zd_X11_isPrince : yX11_isPrince.cls = RX11 ∧ yX11_isPrince.cls ≠ "java/lang/invoke/MethodHandle" ∧ yX11_isPrince.cls ≠ "java/lang/invoke/VarHandle" ∧ (parseMethodDescriptor yX11_isPrince.desc).map (fun d => d.parameters.length) = some 1 := by decide +kernel
theorem zd_X11_learntBy : yX11_learntBy.cls = RX11 ∧ yX11_learntBy.cls ≠ "java/lang/invoke/MethodHandle" ∧ yX11_learntBy.cls ≠ "java/lang/invoke/VarHandle" ∧ (parseMethodDescriptor yX11_learntBy.desc).map (fun d => d.parameters.length) = some 1 := by decide +kernel
theorem zd_X11_lessonNow : yX11_lessonNow.cls = RX11 ∧ yX11_lessonNow.cls ≠ "java/lang/invoke/MethodHandle" ∧ yX11_lessonNow.cls ≠ "java/lang/invoke/VarHandle" ∧ (parseMethodDescriptor yX11_lessonNow.desc).map (fun d => d.parameters.length) = some 2 := by decide +kernel
theorem zd_X11_lesson : yX11_lesson.cls = RX11 ∧ yX11_lesson.cls ≠ "java/lang/invoke/MethodHandle" ∧ yX11_lesson.cls ≠ "java/lang/invoke/VarHandle" ∧ (parseMethodDescriptor yX11_lesson.desc).map (fun d => d.parameters.length) = some 2 := by decide +kernel
theorem zd_X11_stripes : yX11_stripes.cls = RX11 ∧ yX11_stripes.cls ≠ "java/lang/invoke/MethodHandle" ∧ yX11_stripes.cls ≠ "java/lang/invoke/VarHandle" ∧ (parseMethodDescriptor yX11_stripes.desc).map (fun d => d.parameters.length) = some 1 := by decide +kernel
theorem zd_X11_prince : yX11_prince.cls = RX11 ∧ yX11_prince.cls ≠ "java/lang/invoke/MethodHandle" ∧ yX11_prince.cls ≠ "java/lang/invoke/VarHandle" ∧ (parseMethodDescriptor yX11_prince.desc).map (fun d => d.parameters.length) = some 2 := by decide +kernel
theorem zd_X11_feels : yX11_feels.cls = RX11 ∧ yX11_feels.cls ≠ "java/lang/invoke/MethodHandle" ∧ yX11_feels.cls ≠ "java/lang/invoke/VarHandle" ∧ (parseMethodDescriptor yX11_feels.desc).map (fun d => d.parameters.length) = some 2 := by decide +kernel
theorem zd_X11_feelsNow : yX11_feelsNow.cls = RX11 ∧ yX11_feelsNow.cls ≠ "java/lang/invoke/MethodHandle" ∧ yX11_feelsNow.cls ≠ "java/lang/invoke/VarHandle" ∧ (parseMethodDescriptor yX11_feelsNow.desc).map (fun d => d.parameters.length) = some 1 := by decide +kernel
theorem zd_X11_tenthsBy : yX11_tenthsBy.cls = RX11 ∧ yX11_tenthsBy.cls ≠ "java/lang/invoke/MethodHandle" ∧ yX11_tenthsBy.cls ≠ "java/lang/invoke/VarHandle" ∧ (parseMethodDescriptor yX11_tenthsBy.desc).map (fun d => d.parameters.length) = some 3 := by decide +kernel
theorem zd_X11_tenthsNow : yX11_tenthsNow.cls = RX11 ∧ yX11_tenthsNow.cls ≠ "java/lang/invoke/MethodHandle" ∧ yX11_tenthsNow.cls ≠ "java/lang/invoke/VarHandle" ∧ (parseMethodDescriptor yX11_tenthsNow.desc).map (fun d => d.parameters.length) = some 2 := by decide +kernel
theorem zd_X11_princeNow : yX11_princeNow.cls = RX11 ∧ yX11_princeNow.cls ≠ "java/lang/invoke/MethodHandle" ∧ yX11_princeNow.cls ≠ "java/lang/invoke/VarHandle" ∧ (parseMethodDescriptor yX11_princeNow.desc).map (fun d => d.parameters.length) = some 2 := by decide +kernel
theorem zd_X11_about : yX11_about.cls = RX11 ∧ yX11_about.cls ≠ "java/lang/invoke/MethodHandle" ∧ yX11_about.cls ≠ "java/lang/invoke/VarHandle" ∧ (parseMethodDescriptor yX11_about.desc).map (fun d => d.parameters.length) = some 2 := by decide +kernel
theorem zd_X11_as : yX11_as.cls = RX11 ∧ yX11_as.cls ≠ "java/lang/invoke/MethodHandle" ∧ yX11_as.cls ≠ "java/lang/invoke/VarHandle" ∧ (parseMethodDescriptor yX11_as.desc).map (fun d => d.parameters.length) = some 2 := by decide +kernel
theorem zd_X11_give : yX11_give.cls = RX11 ∧ yX11_give.cls ≠ "java/lang/invoke/MethodHandle" ∧ yX11_give.cls ≠ "java/lang/invoke/VarHandle" ∧ (parseMethodDescriptor yX11_give.desc).map (fun d => d.parameters.length) = some 2 := by decide +kernel
theorem zd_X11_fond : yX11_fond.cls = RX11 ∧ yX11_fond.cls ≠ "java/lang/invoke/MethodHandle" ∧ yX11_fond.cls ≠ "java/lang/invoke/VarHandle" ∧ (parseMethodDescriptor yX11_fond.desc).map (fun d => d.parameters.length) = some 3 := by decide +kernel
theorem zd_X11_tenths : yX11_tenths.cls = RX11 ∧ yX11_tenths.cls ≠ "java/lang/invoke/MethodHandle" ∧ yX11_tenths.cls ≠ "java/lang/invoke/VarHandle" ∧ (parseMethodDescriptor yX11_tenths.desc).map (fun d => d.parameters.length) = some 2 := by decide +kernel
theorem zd_X11_fails : yX11_fails.cls = RX11 ∧ yX11_fails.cls ≠ "java/lang/invoke/MethodHandle" ∧ yX11_fails.cls ≠ "java/lang/invoke/VarHandle" ∧ (parseMethodDescriptor yX11_fails.desc).map (fun d => d.parameters.length) = some 2 := by decide +kernel
theorem zd_X11_teach : yX11_teach.cls = RX11 ∧ yX11_teach.cls ≠ "java/lang/invoke/MethodHandle" ∧ yX11_teach.cls ≠ "java/lang/invoke/VarHandle" ∧ (parseMethodDescriptor yX11_teach.desc).map (fun d => d.parameters.length) = some 3 := by decide +kernel
theorem zd_X11_layLeft : yX11_layLeft.cls = RX11 ∧ yX11_layLeft.cls ≠ "java/lang/invoke/MethodHandle" ∧ yX11_layLeft.cls ≠ "java/lang/invoke/VarHandle" ∧ (parseMethodDescriptor yX11_layLeft.desc).map (fun d => d.parameters.length) = some 1 := by decide +kernel
theorem zd_X11_save : yX11_save.cls = RX11 ∧ yX11_save.cls ≠ "java/lang/invoke/MethodHandle" ∧ yX11_save.cls ≠ "java/lang/invoke/VarHandle" ∧ (parseMethodDescriptor yX11_save.desc).map (fun d => d.parameters.length) = some 1 := by decide +kernel
theorem zd_X11_load : yX11_load.cls = RX11 ∧ yX11_load.cls ≠ "java/lang/invoke/MethodHandle" ∧ yX11_load.cls ≠ "java/lang/invoke/VarHandle" ∧ (parseMethodDescriptor yX11_load.desc).map (fun d => d.parameters.length) = some 1 := by decide +kernel
theorem zd_X11_layOrder : yX11_layOrder.cls = RX11 ∧ yX11_layOrder.cls ≠ "java/lang/invoke/MethodHandle" ∧ yX11_layOrder.cls ≠ "java/lang/invoke/VarHandle" ∧ (parseMethodDescriptor yX11_layOrder.desc).map (fun d => d.parameters.length) = some 2 := by decide +kernel
theorem zd_X11_meanBy : yX11_meanBy.cls = RX11 ∧ yX11_meanBy.cls ≠ "java/lang/invoke/MethodHandle" ∧ yX11_meanBy.cls ≠ "java/lang/invoke/VarHandle" ∧ (parseMethodDescriptor yX11_meanBy.desc).map (fun d => d.parameters.length) = some 2 := by decide +kernel
theorem zd_X11_meanOf : yX11_meanOf.cls = RX11 ∧ yX11_meanOf.cls ≠ "java/lang/invoke/MethodHandle" ∧ yX11_meanOf.cls ≠ "java/lang/invoke/VarHandle" ∧ (parseMethodDescriptor yX11_meanOf.desc).map (fun d => d.parameters.length) = some 1 := by decide +kernel
theorem zd_X11_orderNow : yX11_orderNow.cls = RX11 ∧ yX11_orderNow.cls ≠ "java/lang/invoke/MethodHandle" ∧ yX11_orderNow.cls ≠ "java/lang/invoke/VarHandle" ∧ (parseMethodDescriptor yX11_orderNow.desc).map (fun d => d.parameters.length) = some 2 := by decide +kernel
theorem zd_X11_order : yX11_order.cls = RX11 ∧ yX11_order.cls ≠ "java/lang/invoke/MethodHandle" ∧ yX11_order.cls ≠ "java/lang/invoke/VarHandle" ∧ (parseMethodDescriptor yX11_order.desc).map (fun d => d.parameters.length) = some 2 := by decide +kernel
theorem zd_X11_boyBy : yX11_boyBy.cls = RX11 ∧ yX11_boyBy.cls ≠ "java/lang/invoke/MethodHandle" ∧ yX11_boyBy.cls ≠ "java/lang/invoke/VarHandle" ∧ (parseMethodDescriptor yX11_boyBy.desc).map (fun d => d.parameters.length) = some 2 := by decide +kernel
theorem zd_X11_matchBy : yX11_matchBy.cls = RX11 ∧ yX11_matchBy.cls ≠ "java/lang/invoke/MethodHandle" ∧ yX11_matchBy.cls ≠ "java/lang/invoke/VarHandle" ∧ (parseMethodDescriptor yX11_matchBy.desc).map (fun d => d.parameters.length) = some 2 := by decide +kernel
theorem zd_X11_matchNow : yX11_matchNow.cls = RX11 ∧ yX11_matchNow.cls ≠ "java/lang/invoke/MethodHandle" ∧ yX11_matchNow.cls ≠ "java/lang/invoke/VarHandle" ∧ (parseMethodDescriptor yX11_matchNow.desc).map (fun d => d.parameters.length) = some 2 := by decide +kernel
theorem zd_X11_match : yX11_match.cls = RX11 ∧ yX11_match.cls ≠ "java/lang/invoke/MethodHandle" ∧ yX11_match.cls ≠ "java/lang/invoke/VarHandle" ∧ (parseMethodDescriptor yX11_match.desc).map (fun d => d.parameters.length) = some 2 := by decide +kernel
theorem zd_X11_couldFail : yX11_couldFail.cls = RX11 ∧ yX11_couldFail.cls ≠ "java/lang/invoke/MethodHandle" ∧ yX11_couldFail.cls ≠ "java/lang/invoke/VarHandle" ∧ (parseMethodDescriptor yX11_couldFail.desc).map (fun d => d.parameters.length) = some 3 := by decide +kernel
theorem zd_X11_faultsNow : yX11_faultsNow.cls = RX11 ∧ yX11_faultsNow.cls ≠ "java/lang/invoke/MethodHandle" ∧ yX11_faultsNow.cls ≠ "java/lang/invoke/VarHandle" ∧ (parseMethodDescriptor yX11_faultsNow.desc).map (fun d => d.parameters.length) = some 3 := by decide +kernel
theorem zd_X11_faults : yX11_faults.cls = RX11 ∧ yX11_faults.cls ≠ "java/lang/invoke/MethodHandle" ∧ yX11_faults.cls ≠ "java/lang/invoke/VarHandle" ∧ (parseMethodDescriptor yX11_faults.desc).map (fun d => d.parameters.length) = some 3 := by decide +kernel
theorem zd_X11_hear : yX11_hear.cls = RX11 ∧ yX11_hear.cls ≠ "java/lang/invoke/MethodHandle" ∧ yX11_hear.cls ≠ "java/lang/invoke/VarHandle" ∧ (parseMethodDescriptor yX11_hear.desc).map (fun d => d.parameters.length) = some 3 := by decide +kernel
theorem zd_X11_forget : yX11_forget.cls = RX11 ∧ yX11_forget.cls ≠ "java/lang/invoke/MethodHandle" ∧ yX11_forget.cls ≠ "java/lang/invoke/VarHandle" ∧ (parseMethodDescriptor yX11_forget.desc).map (fun d => d.parameters.length) = some 0 := by decide +kernel
theorem zd_X11_couldBe : yX11_couldBe.cls = RX11 ∧ yX11_couldBe.cls ≠ "java/lang/invoke/MethodHandle" ∧ yX11_couldBe.cls ≠ "java/lang/invoke/VarHandle" ∧ (parseMethodDescriptor yX11_couldBe.desc).map (fun d => d.parameters.length) = some 2 := by decide +kernel
theorem zd_X11_fondnessNow : yX11_fondnessNow.cls = RX11 ∧ yX11_fondnessNow.cls ≠ "java/lang/invoke/MethodHandle" ∧ yX11_fondnessNow.cls ≠ "java/lang/invoke/VarHandle" ∧ (parseMethodDescriptor yX11_fondnessNow.desc).map (fun d => d.parameters.length) = some 1 := by decide +kernel
theorem zd_X11_fondness : yX11_fondness.cls = RX11 ∧ yX11_fondness.cls ≠ "java/lang/invoke/MethodHandle" ∧ yX11_fondness.cls ≠ "java/lang/invoke/VarHandle" ∧ (parseMethodDescriptor yX11_fondness.desc).map (fun d => d.parameters.length) = some 1 := by decide +kernel
theorem zd_X11_saveAll : yX11_saveAll.cls = RX11 ∧ yX11_saveAll.cls ≠ "java/lang/invoke/MethodHandle" ∧ yX11_saveAll.cls ≠ "java/lang/invoke/VarHandle" ∧ (parseMethodDescriptor yX11_saveAll.desc).map (fun d => d.parameters.length) = some 0 := by decide +kernel
theorem zd_X11_loadAll : yX11_loadAll.cls = RX11 ∧ yX11_loadAll.cls ≠ "java/lang/invoke/MethodHandle" ∧ yX11_loadAll.cls ≠ "java/lang/invoke/VarHandle" ∧ (parseMethodDescriptor yX11_loadAll.desc).map (fun d => d.parameters.length) = some 0 := by decide +kernel
theorem zd_X11_draw : yX11_draw.cls = RX11 ∧ yX11_draw.cls ≠ "java/lang/invoke/MethodHandle" ∧ yX11_draw.cls ≠ "java/lang/invoke/VarHandle" ∧ (parseMethodDescriptor yX11_draw.desc).map (fun d => d.parameters.length) = some 1 := by decide +kernel
theorem zd_X11_goOne : yX11_goOne.cls = RX11 ∧ yX11_goOne.cls ≠ "java/lang/invoke/MethodHandle" ∧ yX11_goOne.cls ≠ "java/lang/invoke/VarHandle" ∧ (parseMethodDescriptor yX11_goOne.desc).map (fun d => d.parameters.length) = some 2 := by decide +kernel
theorem zd_X11_learntAll : yX11_learntAll.cls = RX11 ∧ yX11_learntAll.cls ≠ "java/lang/invoke/MethodHandle" ∧ yX11_learntAll.cls ≠ "java/lang/invoke/VarHandle" ∧ (parseMethodDescriptor yX11_learntAll.desc).map (fun d => d.parameters.length) = some 0 := by decide +kernel
theorem zd_X11_schoolsNow : yX11_schoolsNow.cls = RX11 ∧ yX11_schoolsNow.cls ≠ "java/lang/invoke/MethodHandle" ∧ yX11_schoolsNow.cls ≠ "java/lang/invoke/VarHandle" ∧ (parseMethodDescriptor yX11_schoolsNow.desc).map (fun d => d.parameters.length) = some 3 := by decide +kernel
theorem zd_X11_schools : yX11_schools.cls = RX11 ∧ yX11_schools.cls ≠ "java/lang/invoke/MethodHandle" ∧ yX11_schools.cls ≠ "java/lang/invoke/VarHandle" ∧ (parseMethodDescriptor yX11_schools.desc).map (fun d => d.parameters.length) = some 3 := by decide +kernel
theorem zd_X11_stripesAll : yX11_stripesAll.cls = RX11 ∧ yX11_stripesAll.cls ≠ "java/lang/invoke/MethodHandle" ∧ yX11_stripesAll.cls ≠ "java/lang/invoke/VarHandle" ∧ (parseMethodDescriptor yX11_stripesAll.desc).map (fun d => d.parameters.length) = some 0 := by decide +kernel
theorem zd_X11_image : yX11_image.cls = RX11 ∧ yX11_image.cls ≠ "java/lang/invoke/MethodHandle" ∧ yX11_image.cls ≠ "java/lang/invoke/VarHandle" ∧ (parseMethodDescriptor yX11_image.desc).map (fun d => d.parameters.length) = some 0 := by decide +kernel
theorem zd_X11_restore : yX11_restore.cls = RX11 ∧ yX11_restore.cls ≠ "java/lang/invoke/MethodHandle" ∧ yX11_restore.cls ≠ "java/lang/invoke/VarHandle" ∧ (parseMethodDescriptor yX11_restore.desc).map (fun d => d.parameters.length) = some 0 := by decide +kernel
theorem zd_X11_howMany : yX11_howMany.cls = RX11 ∧ yX11_howMany.cls ≠ "java/lang/invoke/MethodHandle" ∧ yX11_howMany.cls ≠ "java/lang/invoke/VarHandle" ∧ (parseMethodDescriptor yX11_howMany.desc).map (fun d => d.parameters.length) = some 1 := by decide +kernel
theorem zd_X11_count : yX11_count.cls = RX11 ∧ yX11_count.cls ≠ "java/lang/invoke/MethodHandle" ∧ yX11_count.cls ≠ "java/lang/invoke/VarHandle" ∧ (parseMethodDescriptor yX11_count.desc).map (fun d => d.parameters.length) = some 1 := by decide +kernel
theorem zd_X11_mix : yX11_mix.cls = RX11 ∧ yX11_mix.cls ≠ "java/lang/invoke/MethodHandle" ∧ yX11_mix.cls ≠ "java/lang/invoke/VarHandle" ∧ (parseMethodDescriptor yX11_mix.desc).map (fun d => d.parameters.length) = some 1 := by decide +kernel
theorem zd_X11_mixLesson : yX11_mixLesson.cls = RX11 ∧ yX11_mixLesson.cls ≠ "java/lang/invoke/MethodHandle" ∧ yX11_mixLesson.cls ≠ "java/lang/invoke/VarHandle" ∧ (parseMethodDescriptor yX11_mixLesson.desc).map (fun d => d.parameters.length) = some 1 := by decide +kernel
theorem zd_X11_mixPrince : yX11_mixPrince.cls = RX11 ∧ yX11_mixPrince.cls ≠ "java/lang/invoke/MethodHandle" ∧ yX11_mixPrince.cls ≠ "java/lang/invoke/VarHandle" ∧ (parseMethodDescriptor yX11_mixPrince.desc).map (fun d => d.parameters.length) = some 1 := by decide +kernel
theorem zd_X11_digest : yX11_digest.cls = RX11 ∧ yX11_digest.cls ≠ "java/lang/invoke/MethodHandle" ∧ yX11_digest.cls ≠ "java/lang/invoke/VarHandle" ∧ (parseMethodDescriptor yX11_digest.desc).map (fun d => d.parameters.length) = some 0 := by decide +kernel
theorem zd_J6_bitCount_0f7a4 : yJ6_bitCount_0f7a4.cls = RJ6 ∧ yJ6_bitCount_0f7a4.cls ≠ "java/lang/invoke/MethodHandle" ∧ yJ6_bitCount_0f7a4.cls ≠ "java/lang/invoke/VarHandle" ∧ (parseMethodDescriptor yJ6_bitCount_0f7a4.desc).map (fun d => d.parameters.length) = some 1 := by decide +kernel
theorem zd_J9_max_7cf53 : yJ9_max_7cf53.cls = RJ9 ∧ yJ9_max_7cf53.cls ≠ "java/lang/invoke/MethodHandle" ∧ yJ9_max_7cf53.cls ≠ "java/lang/invoke/VarHandle" ∧ (parseMethodDescriptor yJ9_max_7cf53.desc).map (fun d => d.parameters.length) = some 2 := by decide +kernel
theorem zd_J9_min_7cf53 : yJ9_min_7cf53.cls = RJ9 ∧ yJ9_min_7cf53.cls ≠ "java/lang/invoke/MethodHandle" ∧ yJ9_min_7cf53.cls ≠ "java/lang/invoke/VarHandle" ∧ (parseMethodDescriptor yJ9_min_7cf53.desc).map (fun d => d.parameters.length) = some 2 := by decide +kernel
