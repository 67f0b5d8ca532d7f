-- writing methods: the cells WS that it may write, the cells RS that it reads beside them
theorem z_ro {D : va_G} {RS : va_W} {A : Nat → Prop} {H0 H : Heap} {locs : List Loc} (hR : va_P D vwCl RS H0) (hRA : ∀ q ∈ RS, ¬ A q.1) (hS : va_S A H0 H locs) : va_P D vwCl RS H :=
  hR.kept (fun k q hk => hS.2.1 q.1 (hR k q hk).lt (hRA q (List.mem_of_getElem? hk)))
def zW (D : va_G) (cI cB cP : ClassId) (WS RS : va_W) (sz : Nat) (U : State) : Prop := U.heap.size = sz ∧ va_P D vwCl WS U.heap ∧ va_D (fun _ => True) WS ∧ va_P D vwCl RS U.heap ∧ (∀ q ∈ RS, ¬ va_A WS sz q.1) ∧ va_K D vwCl (zT cI cB cP) U ∧ zN U
theorem zW_blind {D : va_G} {cI cB cP : ClassId} {WS RS : va_W} {sz : Nat} {av : List Value} : FrameBlind (va_Pc av (zW D cI cB cP WS RS sz)) := fun a U g mk q => by
  obtain ⟨q0, q1, qP, qD, qR, qA, qK, qN⟩ := q
  exact ⟨q0, q1, qP, qD, qR, qA, va_K.moved (u := U) (U := U.calling g mk a) (Vm.Alike.refl U.vm) qK, zN.same (s := U) (U := U.calling g mk a) rfl qN⟩
theorem zW_pre {D : va_G} {cI cB cP : ClassId} {WC RC : va_W} {av : List Value} {s : State} {H : Heap} {A : Nat → Prop} (hP : va_P D vwCl WC H) (hD : va_D A WC) (hR : va_P D vwCl RC H) (hA : ∀ q ∈ RC, ¬ va_A WC H.size q.1) (hK : va_K D vwCl (zT cI cB cP) s) (hN : zN s) :
    ∀ U : State, U.heap = H → s.WarmedH U.vm → va_Pc av (zW D cI cB cP WC RC H.size) av.toArray U :=
  fun U hU hW => ⟨rfl, by rw [hU], by rw [hU]; exact hP, hD.weaken (fun _ _ _ _ => trivial), by rw [hU]; exact hR, hA, va_K.moved hW.alike hK, hN.warm hW⟩
abbrev zE (D : va_G) (WS : va_W) (sz : Nat) {S : Type} (WS' : S → va_W) : S → State → Prop := fun u t => va_P D vwCl (WS' u) t.heap ∧ va_D (va_A WS sz) (WS' u)
def zWi {S : Type} (l : Launch) (D : va_G) (cI cB cP : ClassId) (y : MethodName) (ws : List Cond) (rm : Room) (av : List Value) (WS RS : va_W) (post : Int32 → S → Prop) (WS' : S → va_W) : Prop := ∀ sz : Nat, Met l y ws rm (va_Pc av (zW D cI cB cP WS RS sz)) (va_Qi post (zE D WS sz WS') (va_A WS sz)) 0 0 (va_A WS sz)
def zWl {S : Type} (l : Launch) (D : va_G) (cI cB cP : ClassId) (y : MethodName) (ws : List Cond) (rm : Room) (av : List Value) (WS RS : va_W) (post : Int64 → S → Prop) (WS' : S → va_W) : Prop := ∀ sz : Nat, Met l y ws rm (va_Pc av (zW D cI cB cP WS RS sz)) (va_Ql post (zE D WS sz WS') (va_A WS sz)) 0 0 (va_A WS sz)
def zWv {S : Type} (l : Launch) (D : va_G) (cI cB cP : ClassId) (y : MethodName) (ws : List Cond) (rm : Room) (av : List Value) (WS RS : va_W) (post : S → Prop) (WS' : S → va_W) : Prop := ∀ sz : Nat, Met l y ws rm (va_Pc av (zW D cI cB cP WS RS sz)) (va_Qv post (zE D WS sz WS') (va_A WS sz)) 0 0 (va_A WS sz)
theorem z_ofW {l : Launch} {D : va_G} {cI cB cP : ClassId} {y : MethodName} {ws ws' : List Cond} {rm : Room} {av : List Value} {WS RS : va_W} {Qc : Nat → Array Value → State → Outcome → State → Prop} {mc ms : Nat} {cc : ByteArray} {maxL : Nat} {ret : Option FieldType} (hy : plainName y.cls = true) (hw : ws = Cond.code y cc maxL ret :: ws') (hlen : (lg_sl av).length ≤ maxL)
    (body : ∀ (p : Program) (e : Env) (s : State) (m : MethodId) (args : Array Value) (below : List Frame) (meth : Method) (c : Code) (ls : Array Slot), p.tables.exec = Jvm.exec → c.code = cc → c.maxLocals = maxL → meth.sig.returnType = ret → (∀ w ∈ ws, w.before args s = true) → s.methodNamed? y = some m → s.vm.method? m = some meth → s.vm.findClass y.cls = some m.cls → meth.locks = false → va_P D vwCl WS s.heap → va_D (va_A WS s.heap.size) WS → va_P D vwCl RS s.heap → (∀ q ∈ RS, ¬ va_A WS s.heap.size q.1) → va_K D vwCl (zT cI cB cP) s → zN s → lv_has ls maxL (lv_args 0 av) →
      W p l e rm s m args below meth c s.heap [] 0 0 (MQ below (Qc s.heap.size) args s mc ms (va_A WS s.heap.size)) (F0 m 0 ls [])) :
    ∀ sz : Nat, Met l y ws rm (va_Pc av (zW D cI cB cP WS RS sz)) (Qc sz) mc ms (va_A WS sz) := by
  intro sz
  refine Met.ofW (cc := cc) (maxL := maxL) (ret := ret) hy hw ?_
  intro p e s m args below meth c s₁ B hml hv
  obtain ⟨rfl, hsz, hP, hD, hR, hA, hK, hN⟩ := hv
  subst hsz
  rw [lg_entry_eq]
  exact body p e s m _ below meth c _ B.exec B.bytes hml B.returns (atoms_spec (ws := ws) B.pre) B.named B.method (findClass_of_methodNamed B.named) B.notSynchronized hP hD.self hR hA hK hN (lv_entry av hlen)
section
variable {S : Type} {l : Launch} {D : va_G} {cI cB cP : ClassId} {y : MethodName} {ws ws' : List Cond} {rm : Room} {av : List Value} {WS RS : va_W} {WS' : S → va_W} {cc : ByteArray} {maxL : Nat}
theorem zWi_of {post : Int32 → S → Prop} (hy : plainName y.cls = true) (hw : ws = Cond.code y cc maxL (some .int) :: ws') (hlen : (lg_sl av).length ≤ maxL)
    (body : ∀ (p : Program) (e : Env) (s : State) (m : MethodId) (args : Array Value) (below : List Frame) (meth : Method) (c : Code) (ls : Array Slot) (Q : State → Prop) (A : Nat → Prop) (H : Heap) (locs : List Loc), p.tables.exec = Jvm.exec → c.code = cc → c.maxLocals = maxL → (∀ w ∈ ws, w.before args s = true) → s.vm.findClass y.cls = some m.cls → va_P D vwCl WS H → va_D A WS → va_S A s.heap H locs → (∀ q : Nat, s.heap.size ≤ q → A q) → (∀ (H : Heap) (locs : List Loc), va_S A s.heap H locs → va_P D vwCl RS H) → (∀ q ∈ RS, ¬ A q.1) → va_K D vwCl (zT cI cB cP) s → zN s → lv_has ls maxL (lv_args 0 av) →
      (∀ (pc : Nat) (ls : Array Slot) (v : Int32) (u : S) (H : Heap) (locs : List Loc), decode cc pc = .ok (.ireturn, 1) → post v u → va_P D vwCl (WS' u) H → va_D A (WS' u) → va_S A s.heap H locs → W p l e rm s m args below meth c H locs 0 0 Q (F0 m pc ls [.int v])) → W p l e rm s m args below meth c H locs 0 0 Q (F0 m 0 ls [])) : zWi l D cI cB cP y ws rm av WS RS post WS' :=
  z_ofW hy hw hlen (fun p e s m args below meth c ls hx hb hml hr hts _ _ hown hlocks hP hD hR hRA hK hN hl => body p e s m args below meth c ls _ _ s.heap [] hx hb hml hts hown hP hD va_S.rf (fun _ h => Or.inr h) (fun _ _ hS => z_ro hR hRA hS) hRA hK hN hl
    (fun pc ls v u H locs hdg hp hP' hD' hS => W.iret hx hb hr (fun t ht _ => ⟨⟨v, u, rfl, hp, by rw [ht]; exact hP', hD'⟩, hS.F ht⟩) hS.2.2 hdg hlocks))
theorem zWz_of {post : Int32 → S → Prop} (hy : plainName y.cls = true) (hw : ws = Cond.code y cc maxL (some .boolean) :: ws') (hlen : (lg_sl av).length ≤ maxL)
    (body : ∀ (p : Program) (e : Env) (s : State) (m : MethodId) (args : Array Value) (below : List Frame) (meth : Method) (c : Code) (ls : Array Slot) (Q : State → Prop) (A : Nat → Prop) (H : Heap) (locs : List Loc), p.tables.exec = Jvm.exec → c.code = cc → c.maxLocals = maxL → (∀ w ∈ ws, w.before args s = true) → s.vm.findClass y.cls = some m.cls → va_P D vwCl WS H → va_D A WS → va_S A s.heap H locs → (∀ q : Nat, s.heap.size ≤ q → A q) → (∀ (H : Heap) (locs : List Loc), va_S A s.heap H locs → va_P D vwCl RS H) → (∀ q ∈ RS, ¬ A q.1) → va_K D vwCl (zT cI cB cP) s → zN s → lv_has ls maxL (lv_args 0 av) →
      (∀ (pc : Nat) (ls : Array Slot) (v : Int32) (u : S) (H : Heap) (locs : List Loc), decode cc pc = .ok (.ireturn, 1) → narrow .boolean (.int v) = .int v → post v u → va_P D vwCl (WS' u) H → va_D A (WS' u) → va_S A s.heap H locs → W p l e rm s m args below meth c H locs 0 0 Q (F0 m pc ls [.int v])) → W p l e rm s m args below meth c H locs 0 0 Q (F0 m 0 ls [])) : zWi l D cI cB cP y ws rm av WS RS post WS' :=
  z_ofW hy hw hlen (fun p e s m args below meth c ls hx hb hml hr hts _ _ hown hlocks hP hD hR hRA hK hN hl => body p e s m args below meth c ls _ _ s.heap [] hx hb hml hts hown hP hD va_S.rf (fun _ h => Or.inr h) (fun _ _ hS => z_ro hR hRA hS) hRA hK hN hl
    (fun pc ls v u H locs hdg hn hp hP' hD' hS => W.zret hx hb hr hn (fun t ht _ => ⟨⟨v, u, rfl, hp, by rw [ht]; exact hP', hD'⟩, hS.F ht⟩) hS.2.2 hdg hlocks))
theorem zWl_of {post : Int64 → S → Prop} (hy : plainName y.cls = true) (hw : ws = Cond.code y cc maxL (some .long) :: ws') (hlen : (lg_sl av).length ≤ maxL)
    (body : ∀ (p : Program) (e : Env) (s : State) (m : MethodId) (args : Array Value) (below : List Frame) (meth : Method) (c : Code) (ls : Array Slot) (Q : State → Prop) (A : Nat → Prop) (H : Heap) (locs : List Loc), p.tables.exec = Jvm.exec → c.code = cc → c.maxLocals = maxL → (∀ w ∈ ws, w.before args s = true) → s.vm.findClass y.cls = some m.cls → va_P D vwCl WS H → va_D A WS → va_S A s.heap H locs → (∀ q : Nat, s.heap.size ≤ q → A q) → (∀ (H : Heap) (locs : List Loc), va_S A s.heap H locs → va_P D vwCl RS H) → (∀ q ∈ RS, ¬ A q.1) → va_K D vwCl (zT cI cB cP) s → zN s → lv_has ls maxL (lv_args 0 av) →
      (∀ (pc : Nat) (ls : Array Slot) (v : Int64) (u : S) (H : Heap) (locs : List Loc), decode cc pc = .ok (.lreturn, 1) → post v u → va_P D vwCl (WS' u) H → va_D A (WS' u) → va_S A s.heap H locs → W p l e rm s m args below meth c H locs 0 0 Q (F0 m pc ls [.long v])) → W p l e rm s m args below meth c H locs 0 0 Q (F0 m 0 ls [])) : zWl l D cI cB cP y ws rm av WS RS post WS' :=
  z_ofW hy hw hlen (fun p e s m args below meth c ls hx hb hml hr hts _ _ hown hlocks hP hD hR hRA hK hN hl => body p e s m args below meth c ls _ _ s.heap [] hx hb hml hts hown hP hD va_S.rf (fun _ h => Or.inr h) (fun _ _ hS => z_ro hR hRA hS) hRA hK hN hl
    (fun pc ls v u H locs hdg hp hP' hD' hS => W.lret hx hb hr (fun t ht _ => ⟨⟨v, u, rfl, hp, by rw [ht]; exact hP', hD'⟩, hS.F ht⟩) hS.2.2 hdg hlocks))
theorem zWv_of {post : S → Prop} (hy : plainName y.cls = true) (hw : ws = Cond.code y cc maxL none :: ws') (hlen : (lg_sl av).length ≤ maxL)
    (body : ∀ (p : Program) (e : Env) (s : State) (m : MethodId) (args : Array Value) (below : List Frame) (meth : Method) (c : Code) (ls : Array Slot) (Q : State → Prop) (A : Nat → Prop) (H : Heap) (locs : List Loc), p.tables.exec = Jvm.exec → c.code = cc → c.maxLocals = maxL → (∀ w ∈ ws, w.before args s = true) → s.vm.findClass y.cls = some m.cls → va_P D vwCl WS H → va_D A WS → va_S A s.heap H locs → (∀ q : Nat, s.heap.size ≤ q → A q) → (∀ (H : Heap) (locs : List Loc), va_S A s.heap H locs → va_P D vwCl RS H) → (∀ q ∈ RS, ¬ A q.1) → va_K D vwCl (zT cI cB cP) s → zN s → lv_has ls maxL (lv_args 0 av) →
      (∀ (pc : Nat) (ls : Array Slot) (u : S) (H : Heap) (locs : List Loc), decode cc pc = .ok (.return_, 1) → post u → va_P D vwCl (WS' u) H → va_D A (WS' u) → va_S A s.heap H locs → W p l e rm s m args below meth c H locs 0 0 Q (F0 m pc ls [])) → W p l e rm s m args below meth c H locs 0 0 Q (F0 m 0 ls [])) : zWv l D cI cB cP y ws rm av WS RS post WS' :=
  z_ofW hy hw hlen (fun p e s m args below meth c ls hx hb hml hr hts _ _ hown hlocks hP hD hR hRA hK hN hl => body p e s m args below meth c ls _ _ s.heap [] hx hb hml hts hown hP hD va_S.rf (fun _ h => Or.inr h) (fun _ _ hS => z_ro hR hRA hS) hRA hK hN hl
    (fun pc ls u H locs hdg hp hP' hD' hS => W.vret hx hb hr (fun t ht _ => ⟨⟨u, rfl, hp, by rw [ht]; exact hP', hD'⟩, hS.F ht⟩) hS.2.2 hdg (hlocks := hlocks)))
end
-- a callee's cells put back in their places
def zPut (F : va_W) : List Nat → va_W → va_W
  | i :: is, q :: qs => zPut (F.set i q) is qs
  | _, _ => F
theorem zPut_nil (F qs : va_W) : zPut F [] qs = F := by cases qs <;> rfl
theorem zPut_get : ∀ (is : List Nat) (qs F : va_W) (k : Nat) (q : Nat × va_E), is.length = qs.length → (zPut F is qs)[k]? = some q → (∃ j : Nat, is[j]? = some k ∧ qs[j]? = some q) ∨ (k ∉ is ∧ F[k]? = some q) := by
  intro is
  induction is with
  | nil => intro qs F k q hl h; exact Or.inr ⟨List.not_mem_nil, by rw [zPut_nil] at h; exact h⟩
  | cons i is ih =>
    intro qs F k q hl h
    match qs, hl with
    | x :: qs, hl =>
      rcases ih qs (F.set i x) k q (by simpa using hl) h with ⟨j, h1, h2⟩ | ⟨h1, h2⟩
      · exact Or.inl ⟨j + 1, h1, h2⟩
      · by_cases e : i = k
        · subst e
          rw [List.getElem?_set] at h2
          simp only [if_true] at h2
          split at h2
          · exact Or.inl ⟨0, rfl, h2⟩
          · cases h2
        · rw [List.getElem?_set_ne e] at h2
          exact Or.inr ⟨by simp only [List.mem_cons, not_or]; exact ⟨fun q => e q.symm, h1⟩, h2⟩
theorem z_Daddr {A : Nat → Prop} {w1 w2 : va_W} (h : va_D A w1) (e : w2.map Prod.fst = w1.map Prod.fst) : va_D A w2 := by
  have get : ∀ (k : Nat) (q : Nat × va_E), w2[k]? = some q → ∃ q', w1[k]? = some q' ∧ q'.1 = q.1 := by
    intro k q hk
    have h1 : (w2.map Prod.fst)[k]? = some q.1 := by rw [List.getElem?_map, hk]; rfl
    rw [e, List.getElem?_map] at h1
    cases hx : w1[k]? with
    | none => rw [hx] at h1; cases h1
    | some q' => rw [hx] at h1; exact ⟨q', rfl, by simpa using h1⟩
  refine ⟨fun i j p q hi hj hpq => ?_, fun k q hk => ?_⟩
  · obtain ⟨p', h1, h2⟩ := get i p hi
    obtain ⟨q', h3, h4⟩ := get j q hj
    exact h.1 i j p' q' h1 h3 (by rw [h2, h4, hpq])
  · obtain ⟨q', h1, h2⟩ := get k q hk
    rw [← h2]; exact h.2 k q' h1
theorem z_part {F WC : va_W} {isC : List Nat} (hC : isC.map (fun i => F[i]?) = WC.map some) {k : Nat} {q : Nat × va_E} (hk : WC[k]? = some q) : ∃ i, isC[k]? = some i ∧ F[i]? = some q := by
  have h1 : (isC.map (fun i => F[i]?))[k]? = some (some q) := by rw [hC, List.getElem?_map, hk]; rfl
  rw [List.getElem?_map] at h1
  cases hi : isC[k]? with
  | none => rw [hi] at h1; cases h1
  | some i => rw [hi] at h1; exact ⟨i, rfl, by simpa using h1⟩
theorem z_part2 {F WC : va_W} {isC : List Nat} (hC : isC.map (fun i => F[i]?) = WC.map some) {k i : Nat} (hk : isC[k]? = some i) : ∃ q, WC[k]? = some q ∧ F[i]? = some q := by
  have h1 : (WC.map some)[k]? = some (F[i]?) := by rw [← hC, List.getElem?_map, hk]; rfl
  rw [List.getElem?_map] at h1
  cases hq : WC[k]? with
  | none => rw [hq] at h1; cases h1
  | some q => rw [hq] at h1; exact ⟨q, rfl, by simpa using h1.symm⟩
theorem z_sepW {D : va_G} {A : Nat → Prop} {WS WC : va_W} {H : Heap} (hD : va_D A WS) (hP : va_P D vwCl WS H) (isC : List Nat) (hC : isC.map (fun i => WS[i]?) = WC.map some) (i : Nat) {q : Nat × va_E} (hi : WS[i]? = some q) (hni : i ∉ isC) : ¬ va_A WC H.size q.1 := by
  rintro (⟨k, e, hk⟩ | hsz)
  · obtain ⟨j, hj, hjq⟩ := z_part hC hk
    have := hD.1 i j q (q.1, e) hi hjq rfl
    subst this
    exact hni (List.mem_of_getElem? hj)
  · have h1 : q.1 < H.size := (hP i q hi).lt
    omega
theorem z_sepR {A : Nat → Prop} {RS WC : va_W} {sz : Nat} (hRA : ∀ q ∈ RS, ¬ A q.1) (hF : ∀ q, va_A WC sz q → A q) {q : Nat × va_E} (hq : q ∈ RS) : ¬ va_A WC sz q.1 := fun h => hRA q hq (hF _ h)
theorem z_join {D : va_G} {A : Nat → Prop} {F T WC W1 : va_W} {H H1 : Heap} (hP : va_P D vwCl (F ++ T) H) (hD : va_D A (F ++ T)) (isC : List Nat) (hC : isC.map (fun i => F[i]?) = WC.map some) (hk : ∀ q : Nat, q < H.size → ¬ va_A WC H.size q → H1[q]? = H[q]?) (hP1 : va_P D vwCl W1 H1) (hW : W1.map Prod.fst = WC.map Prod.fst) :
    va_P D vwCl (zPut F isC W1 ++ T) H1 ∧ va_D A (zPut F isC W1 ++ T) := by
  have hlen : isC.length = W1.length := by
    have a1 := congrArg List.length hC
    have a2 := congrArg List.length hW
    simp only [List.length_map] at a1 a2
    omega
  have hmapP : ∀ (is : List Nat) (qs : va_W) (G : va_W), is.length = qs.length → (∀ (k i : Nat) (q : Nat × va_E), is[k]? = some i → qs[k]? = some q → ∃ q', G[i]? = some q' ∧ q'.1 = q.1) → (zPut G is qs).map Prod.fst = G.map Prod.fst := by
    intro is
    induction is with
    | nil => intro qs G _ _; cases qs <;> rfl
    | cons i is ih =>
      intro qs G hl h
      match qs, hl with
      | x :: qs, hl =>
        obtain ⟨q', g1, g2⟩ := h 0 i x rfl rfl
        have e1 : (G.set i x).map Prod.fst = G.map Prod.fst := by
          apply List.ext_getElem?
          intro j
          rw [List.getElem?_map, List.getElem?_map]
          by_cases e : i = j
          · subst e
            have hlt : i < G.length := (List.getElem?_eq_some_iff.mp g1).1
            rw [List.getElem?_set_self hlt, g1]
            simp [g2]
          · rw [List.getElem?_set_ne e]
        have e2 := ih qs (G.set i x) (by simpa using hl) (fun k j q h1 h2 => by
          obtain ⟨q1, r1, r2⟩ := h (k + 1) j q h1 h2
          by_cases e : i = j
          · subst e
            have hlt : i < G.length := (List.getElem?_eq_some_iff.mp g1).1
            refine ⟨x, List.getElem?_set_self hlt, ?_⟩
            rw [← g2, ← r2]
            rw [g1] at r1
            cases r1
            rfl
          · exact ⟨q1, by rw [List.getElem?_set_ne e]; exact r1, r2⟩)
        exact e2.trans e1
  have haddr : (zPut F isC W1).map Prod.fst = F.map Prod.fst := by
    refine hmapP isC W1 F hlen (fun k i q h1 h2 => ?_)
    obtain ⟨q', g1, g2⟩ := z_part2 hC h1
    refine ⟨q', g2, ?_⟩
    have e1 : (W1.map Prod.fst)[k]? = some q.1 := by rw [List.getElem?_map, h2]; rfl
    rw [hW, List.getElem?_map, g1] at e1
    simpa using e1
  have hflen : (zPut F isC W1).length = F.length := by
    have := congrArg List.length haddr
    simpa using this
  have hFT : ∀ {i : Nat} {q : Nat × va_E}, F[i]? = some q → (F ++ T)[i]? = some q := fun {i q} h => by
    rw [List.getElem?_append_left (List.getElem?_eq_some_iff.mp h).1]; exact h
  have apart : ∀ (i : Nat) (q : Nat × va_E), (F ++ T)[i]? = some q → i ∉ isC → ¬ va_A WC H.size q.1 := by
    rintro i q hi hni (⟨k, e, hk'⟩ | hsz)
    · obtain ⟨j, hj, hjq⟩ := z_part hC hk'
      have := hD.1 i j q (q.1, e) hi (hFT hjq) rfl
      subst this
      exact hni (List.mem_of_getElem? hj)
    · have h1 : q.1 < H.size := (hP i q hi).lt
      omega
  refine ⟨fun k q hq => ?_, z_Daddr hD (by rw [List.map_append, List.map_append, haddr])⟩
  by_cases hlt : k < (zPut F isC W1).length
  · rw [List.getElem?_append_left hlt] at hq
    rcases zPut_get isC W1 F k q hlen hq with ⟨j, h1, h2⟩ | ⟨h1, h2⟩
    · exact hP1 j q h2
    · exact (hP k q (hFT h2)).kept (hk q.1 (hP k q (hFT h2)).lt (apart k q (hFT h2) h1))
  · rw [List.getElem?_append_right (by omega)] at hq
    have hq' : (F ++ T)[k]? = some q := by rw [List.getElem?_append_right (by omega), ← hflen]; exact hq
    refine (hP k q hq').kept (hk q.1 (hP k q hq').lt (apart k q hq' (fun hm => ?_)))
    obtain ⟨j, hj⟩ := List.getElem?_of_mem hm
    obtain ⟨q2, -, g2⟩ := z_part2 hC hj
    have := (List.getElem?_eq_some_iff.mp g2).1
    omega
theorem z_join0 {D : va_G} {A : Nat → Prop} {F WC W1 : va_W} {H H1 : Heap} (hP : va_P D vwCl F H) (hD : va_D A F) (isC : List Nat) (hC : isC.map (fun i => F[i]?) = WC.map some) (hk : ∀ q : Nat, q < H.size → ¬ va_A WC H.size q → H1[q]? = H[q]?) (hP1 : va_P D vwCl W1 H1) (hW : W1.map Prod.fst = WC.map Prod.fst) :
    va_P D vwCl (zPut F isC W1) H1 ∧ va_D A (zPut F isC W1) := by
  have h := z_join (T := []) (by rw [List.append_nil]; exact hP) (by rw [List.append_nil]; exact hD) isC hC hk hP1 hW
  rw [List.append_nil] at h
  exact h
section
variable {S : Type} {p : Program} {l : Launch} {e : Env} {R : Room} {s : State} {m : MethodId} {args : Array Value} {below : List Frame} {meth : Method} {c : Code} {H H0 : Heap} {locs : List Loc} {cells slots : Nat} {Q : State → Prop} {pc : Nat} {ls : Array Slot} {rest st0 : List Value} {a : Array Value} {D : va_G} {A : Nat → Prop} {F WC : va_W} {WC' Fn : S → va_W}
theorem z_wi {post : Int32 → S → Prop} (hr : va_Run p l e R s m args below meth c H locs cells slots 0 0 (F0 m pc ls st0) rest (va_Qi post (zE D WC H.size WC') (va_A WC H.size) a) (va_A WC H.size)) (hP : va_P D vwCl F H) (hD : va_D A F) (hS : va_S A H0 H locs) (hA : ∀ q : Nat, H0.size ≤ q → A q) (isC : List Nat) (hC : isC.map (fun i => F[i]?) = WC.map some) (hW : ∀ u, (WC' u).map Prod.fst = WC.map Prod.fst) (hF : ∀ u, zPut F isC (WC' u) = Fn u)
    (kk : ∀ (r : Int32) (u : S) (H1 : Heap) (locs1 : List Loc), post r u → va_P D vwCl (Fn u) H1 → va_D A (Fn u) → va_S A H0 H1 locs1 → W p l e R s m args below meth c H1 locs1 (cells + 0) (slots + 0) Q (F0 m (pc + 3) ls (.int r :: rest))) : W p l e R s m args below meth c H locs cells slots Q (F0 m pc ls st0) := by
  have hFc := va_free (wc := WC) hD hS hA isC hC
  refine va_calli hr hS (fun q _ h => hFc q h) hFc (fun r u t H1 locs1 ht _ hp hB _ hk hS1 => ?_)
  obtain ⟨hP1, -⟩ := hB
  rw [ht] at hP1
  obtain ⟨g1, g2⟩ := z_join0 hP hD isC hC hk hP1 (hW u)
  rw [hF u] at g1 g2
  exact kk r u H1 locs1 hp g1 g2 hS1
theorem z_wl {post : Int64 → S → Prop} (hr : va_Run p l e R s m args below meth c H locs cells slots 0 0 (F0 m pc ls st0) rest (va_Ql post (zE D WC H.size WC') (va_A WC H.size) a) (va_A WC H.size)) (hP : va_P D vwCl F H) (hD : va_D A F) (hS : va_S A H0 H locs) (hA : ∀ q : Nat, H0.size ≤ q → A q) (isC : List Nat) (hC : isC.map (fun i => F[i]?) = WC.map some) (hW : ∀ u, (WC' u).map Prod.fst = WC.map Prod.fst) (hF : ∀ u, zPut F isC (WC' u) = Fn u)
    (kk : ∀ (r : Int64) (u : S) (H1 : Heap) (locs1 : List Loc), post r u → va_P D vwCl (Fn u) H1 → va_D A (Fn u) → va_S A H0 H1 locs1 → W p l e R s m args below meth c H1 locs1 (cells + 0) (slots + 0) Q (F0 m (pc + 3) ls (.long r :: rest))) : W p l e R s m args below meth c H locs cells slots Q (F0 m pc ls st0) := by
  have hFc := va_free (wc := WC) hD hS hA isC hC
  refine va_calll hr hS (fun q _ h => hFc q h) hFc (fun r u t H1 locs1 ht _ hp hB _ hk hS1 => ?_)
  obtain ⟨hP1, -⟩ := hB
  rw [ht] at hP1
  obtain ⟨g1, g2⟩ := z_join0 hP hD isC hC hk hP1 (hW u)
  rw [hF u] at g1 g2
  exact kk r u H1 locs1 hp g1 g2 hS1
theorem z_wv {post : S → Prop} (hr : va_Run p l e R s m args below meth c H locs cells slots 0 0 (F0 m pc ls st0) rest (va_Qv post (zE D WC H.size WC') (va_A WC H.size) a) (va_A WC H.size)) (hP : va_P D vwCl F H) (hD : va_D A F) (hS : va_S A H0 H locs) (hA : ∀ q : Nat, H0.size ≤ q → A q) (isC : List Nat) (hC : isC.map (fun i => F[i]?) = WC.map some) (hW : ∀ u, (WC' u).map Prod.fst = WC.map Prod.fst) (hF : ∀ u, zPut F isC (WC' u) = Fn u)
    (kk : ∀ (u : S) (H1 : Heap) (locs1 : List Loc), post u → va_P D vwCl (Fn u) H1 → va_D A (Fn u) → va_S A H0 H1 locs1 → W p l e R s m args below meth c H1 locs1 (cells + 0) (slots + 0) Q (F0 m (pc + 3) ls rest)) : W p l e R s m args below meth c H locs cells slots Q (F0 m pc ls st0) := by
  have hFc := va_free (wc := WC) hD hS hA isC hC
  refine va_callv hr hS (fun q _ h => hFc q h) hFc (fun u t H1 locs1 ht _ hp hB _ hk hS1 => ?_)
  obtain ⟨hP1, -⟩ := hB
  rw [ht] at hP1
  obtain ⟨g1, g2⟩ := z_join0 hP hD isC hC hk hP1 (hW u)
  rw [hF u] at g1 g2
  exact kk u H1 locs1 hp g1 g2 hS1
variable {cI cB cP : ClassId} {y : MethodName} {bytes cc : ByteArray} {maxL nL n index : Nat} {ret : Option FieldType} {ws ws' : List Cond} {fr lo : Nat} {Qc : Nat → Array Value → State → Outcome → State → Prop} {Ts : List Cond} {own C host : String} {b : Addr} {As : List Value} {RC : va_W} {ci : Nat} {fs : List Value} {T : u_T} {N : Nat}
theorem z_wrunV
    (hx : p.tables.exec = Jvm.exec) (hb : c.code = cc) (hml : c.maxLocals = nL) (hown : s.vm.findClass own = some m.cls) (hts : ∀ w ∈ Ts, w.before args s = true) (hK : va_K D vwCl (zT cI cB cP) s) (hN : zN s) (hlz : ls.size = nL)
    (hM : ∀ sz : Nat, Met l y ws { frames := fr, cells := 0, slots := 0, locals := lo } (va_Pc (.ref b :: As) (zW D cI cB cP WC RC sz)) (Qc sz) 0 0 (va_A WC sz)) (hG : GoodIn Ts (wsV own index C y ws)) (hw : ws = Cond.code y bytes maxL ret :: ws')
    (hd : y.cls = C ∧ y.cls ≠ "java/lang/invoke/MethodHandle" ∧ y.cls ≠ "java/lang/invoke/VarHandle" ∧ (parseMethodDescriptor y.desc).map (fun d => d.parameters.length) = some n) (hn : As.length = n) (hR1 : fr + 1 ≤ R.frames) (hR2 : 8 + (maxL + 11) + lo ≤ R.locals)
    (hP : va_P D vwCl WC H) (hD : va_D A WC) (hR : va_P D vwCl RC H) (hA : ∀ q ∈ RC, ¬ va_A WC H.size q.1) (hrc : ∃ cell : Cell, H[b]? = some cell ∧ cell.vm.isStatics = false ∧ s.vm.findClass C = some cell.cls) (hst : st0 = As.reverse ++ .ref b :: rest) (hW : (rest.map fun v => v.category).sum ≤ 8) (hdg : decode cc pc = .ok (.invokevirtual index, 3)) (hf : cells ≤ R.cells ∧ slots ≤ R.slots) :
    va_Run p l e R s m args below meth c H locs cells slots 0 0 (F0 m pc ls st0) rest (Qc H.size (Value.ref b :: As).toArray) (va_A WC H.size) :=
  va_runV ⟨hx, hb, hml, hown, hts⟩ (hM H.size) (cwV n hts hG hw rfl rfl hd ⟨hR1, hR2⟩) ⟨zW_blind, hrc, zW_pre hP hD hR hA hK hN⟩ rfl hn hlz hst (lv_room hW) hdg hf
theorem z_wrunVN
    (hx : p.tables.exec = Jvm.exec) (hb : c.code = cc) (hml : c.maxLocals = nL) (hown : s.vm.findClass own = some m.cls) (hts : ∀ w ∈ Ts, w.before args s = true) (hK : va_K D vwCl (zT cI cB cP) s) (hN : zN s) (hlz : ls.size = nL)
    (hM : ∀ sz : Nat, Met l y ws { frames := fr, cells := 0, slots := 0, locals := lo } (va_Pc (.ref b :: As) (zW D cI cB cP WC RC sz)) (Qc sz) 0 0 (va_A WC sz)) (hG : GoodIn Ts ws) (hw : ws = Cond.code y bytes maxL ret :: ws') (k : Nat) (hk : zNW[k]? = some (.methodLinkNest own index y host)) (hini : Cond.initialized y.cls ∈ Ts) (hins : Cond.instanceMethod y ∈ Ts) (hsel : Cond.selects C y y ∈ Ts)
    (hd : y.cls = C ∧ y.cls ≠ "java/lang/invoke/MethodHandle" ∧ y.cls ≠ "java/lang/invoke/VarHandle" ∧ (parseMethodDescriptor y.desc).map (fun d => d.parameters.length) = some n) (hn : As.length = n) (hR1 : fr + 1 ≤ R.frames) (hR2 : 8 + (maxL + 11) + lo ≤ R.locals)
    (hP : va_P D vwCl WC H) (hD : va_D A WC) (hR : va_P D vwCl RC H) (hA : ∀ q ∈ RC, ¬ va_A WC H.size q.1) (hrc : ∃ cell : Cell, H[b]? = some cell ∧ cell.vm.isStatics = false ∧ s.vm.findClass C = some cell.cls) (hst : st0 = As.reverse ++ .ref b :: rest) (hW : (rest.map fun v => v.category).sum ≤ 8) (hdg : decode cc pc = .ok (.invokevirtual index, 3)) (hf : cells ≤ R.cells ∧ slots ≤ R.slots) :
    va_Run p l e R s m args below meth c H locs cells slots 0 0 (F0 m pc ls st0) rest (Qc H.size (Value.ref b :: As).toArray) (va_A WC H.size) :=
  va_runVN (host := host) ⟨hx, hb, hml, hown, hts⟩ (hM H.size) ⟨va_cnB n hts hG hw rfl rfl (hN.n k hk) (hts _ hini) hd.2 ⟨hR1, hR2⟩, hts _ hins, hts _ hsel⟩ ⟨zW_blind, hrc, zW_pre hP hD hR hA hK hN⟩ rfl hn hlz hst (lv_room hW) hdg hf
theorem z_wrunS
    (hx : p.tables.exec = Jvm.exec) (hb : c.code = cc) (hml : c.maxLocals = nL) (hown : s.vm.findClass own = some m.cls) (hts : ∀ w ∈ Ts, w.before args s = true) (hK : va_K D vwCl (zT cI cB cP) s) (hN : zN s) (hlz : ls.size = nL)
    (hM : ∀ sz : Nat, Met l y ws { frames := fr, cells := 0, slots := 0, locals := lo } (va_Pc As (zW D cI cB cP WC RC sz)) (Qc sz) 0 0 (va_A WC sz)) (hG : GoodIn Ts (va_wsS own index y ws)) (hw : ws = Cond.code y bytes maxL ret :: ws')
    (hd : y.cls = C ∧ y.cls ≠ "java/lang/invoke/MethodHandle" ∧ y.cls ≠ "java/lang/invoke/VarHandle" ∧ (parseMethodDescriptor y.desc).map (fun d => d.parameters.length) = some n) (hn : As.length = n) (hR1 : fr + 1 ≤ R.frames) (hR2 : 8 + (maxL + 11) + lo ≤ R.locals)
    (hP : va_P D vwCl WC H) (hD : va_D A WC) (hR : va_P D vwCl RC H) (hA : ∀ q ∈ RC, ¬ va_A WC H.size q.1) (hst : st0 = As.reverse ++ rest) (hW : (rest.map fun v => v.category).sum ≤ 8) (hdg : decode cc pc = .ok (.invokestatic index, 3)) (hf : cells ≤ R.cells ∧ slots ≤ R.slots) :
    va_Run p l e R s m args below meth c H locs cells slots 0 0 (F0 m pc ls st0) rest (Qc H.size As.toArray) (va_A WC H.size) :=
  va_runS ⟨hx, hb, hml, hown, hts⟩ (hM H.size) (va_cwS n hts hG hw rfl rfl hd.2 ⟨hR1, hR2⟩) ⟨zW_blind, zW_pre hP hD hR hA hK hN⟩ rfl hn hlz hst (lv_room hW) hdg hf
theorem z_wrunSN
    (hx : p.tables.exec = Jvm.exec) (hb : c.code = cc) (hml : c.maxLocals = nL) (hown : s.vm.findClass own = some m.cls) (hts : ∀ w ∈ Ts, w.before args s = true) (hK : va_K D vwCl (zT cI cB cP) s) (hN : zN s) (hlz : ls.size = nL)
    (hM : ∀ sz : Nat, Met l y ws { frames := fr, cells := 0, slots := 0, locals := lo } (va_Pc As (zW D cI cB cP WC RC sz)) (Qc sz) 0 0 (va_A WC sz)) (hG : GoodIn Ts ws) (hw : ws = Cond.code y bytes maxL ret :: ws') (k : Nat) (hk : zNW[k]? = some (.methodLinkNest own index y host)) (hini : Cond.initialized y.cls ∈ Ts) (hstt : Cond.static y ∈ Ts)
    (hd : y.cls = C ∧ y.cls ≠ "java/lang/invoke/MethodHandle" ∧ y.cls ≠ "java/lang/invoke/VarHandle" ∧ (parseMethodDescriptor y.desc).map (fun d => d.parameters.length) = some n) (hn : As.length = n) (hR1 : fr + 1 ≤ R.frames) (hR2 : 8 + (maxL + 11) + lo ≤ R.locals)
    (hP : va_P D vwCl WC H) (hD : va_D A WC) (hR : va_P D vwCl RC H) (hA : ∀ q ∈ RC, ¬ va_A WC H.size q.1) (hst : st0 = As.reverse ++ rest) (hW : (rest.map fun v => v.category).sum ≤ 8) (hdg : decode cc pc = .ok (.invokestatic index, 3)) (hf : cells ≤ R.cells ∧ slots ≤ R.slots) :
    va_Run p l e R s m args below meth c H locs cells slots 0 0 (F0 m pc ls st0) rest (Qc H.size As.toArray) (va_A WC H.size) :=
  va_runSN (host := host) ⟨hx, hb, hml, hown, hts⟩ (hM H.size) ⟨va_cnB n hts hG hw rfl rfl (hN.n k hk) (hts _ hini) hd.2 ⟨hR1, hR2⟩, hts _ hstt, trivial⟩ ⟨zW_blind, zW_pre hP hD hR hA hK hN⟩ rfl hn hlz hst (lv_room hW) hdg hf
end
