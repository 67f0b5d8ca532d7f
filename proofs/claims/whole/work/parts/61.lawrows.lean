-- the law: rows for calls beside other cells, the start of the world
theorem z_df {A : Nat → Prop} {F T : va_W} (h : va_D A (F ++ T)) : va_D A F :=
  ⟨fun i j p q hi hj e => h.1 i j p q (by rw [List.getElem?_append_left (List.getElem?_eq_some_iff.mp hi).1]; exact hi) (by rw [List.getElem?_append_left (List.getElem?_eq_some_iff.mp hj).1]; exact hj) e,
   fun k q hk => h.2 k q (by rw [List.getElem?_append_left (List.getElem?_eq_some_iff.mp hk).1]; exact hk)⟩
theorem z_swP {D : va_G} {X M T : va_W} {H : Heap} (h : va_P D vwCl (X ++ (M ++ T)) H) : va_P D vwCl (M ++ (X ++ T)) H := va_P.app (z_pf (z_pp h)) (va_P.app (z_pf h) (z_pp (z_pp h)))
theorem z_swD {A : Nat → Prop} {X M T : va_W} (h : va_D A (X ++ (M ++ T))) : va_D A (M ++ (X ++ T)) := by
  have sub1 : ∀ {U V : va_W} {k : Nat} {q : Nat × va_E}, U[k]? = some q → (U ++ V)[k]? = some q := fun {U V k q} hk => by rw [List.getElem?_append_left (List.getElem?_eq_some_iff.mp hk).1]; exact hk
  have sub2 : ∀ {U V : va_W} {k : Nat} {q : Nat × va_E}, V[k]? = some q → (U ++ V)[U.length + k]? = some q := fun {U V k q} hk => by rw [List.getElem?_append_right (by omega), Nat.add_sub_cancel_left]; exact hk
  have hM : va_D A M := ⟨fun i j p q hi hj e => by
      have := h.1 _ _ p q (sub2 (sub1 hi)) (sub2 (sub1 hj)) e
      omega, fun k q hk => h.2 _ q (sub2 (sub1 hk))⟩
  have hX : va_D A X := z_df h
  have hT : va_D A T := ⟨fun i j p q hi hj e => by
      have := h.1 _ _ p q (sub2 (sub2 hi)) (sub2 (sub2 hj)) e
      omega, fun k q hk => h.2 _ q (sub2 (sub2 hk))⟩
  refine va_D.app hM (va_D.app hX hT (fun i j p q hi hj e => ?_)) (fun i j p q hi hj e => ?_)
  · have h1 := h.1 _ _ p q (sub1 hi) (sub2 (sub2 hj)) e
    have h2 := (List.getElem?_eq_some_iff.mp hi).1
    omega
  · rcases List.mem_append.mp (List.mem_of_getElem? hj) with hq | hq
    · obtain ⟨k, hk⟩ := List.getElem?_of_mem hq
      have h1 := h.1 _ _ p q (sub2 (sub1 hi)) (sub1 hk) e
      have h2 := (List.getElem?_eq_some_iff.mp hk).1
      omega
    · obtain ⟨k, hk⟩ := List.getElem?_of_mem hq
      have h1 := h.1 _ _ p q (sub2 (sub1 hi)) (sub2 (sub2 hk)) e
      have h2 := (List.getElem?_eq_some_iff.mp hi).1
      omega
theorem z_sepT {D : va_G} {A : Nat → Prop} {F T WC : va_W} {H : Heap} (hD : va_D A (F ++ T)) (hP : va_P D vwCl (F ++ T) H) (isC : List Nat) (hC : isC.map (fun i => F[i]?) = WC.map some) {q : Nat × va_E} (hq : q ∈ T) : ¬ va_A WC H.size q.1 := by
  obtain ⟨k, hk⟩ := List.getElem?_of_mem hq
  have hk2 : (F ++ T)[F.length + k]? = some q := by rw [List.getElem?_append_right (by omega), Nat.add_sub_cancel_left]; exact hk
  rintro (⟨j, e, hj⟩ | hsz)
  · obtain ⟨i, hi, hiq⟩ := z_part hC hj
    have h2 := (List.getElem?_eq_some_iff.mp hiq).1
    have h1 := hD.1 i (F.length + k) (q.1, e) q (by rw [List.getElem?_append_left h2]; exact hiq) hk2 rfl
    omega
  · have h1 : q.1 < H.size := (hP _ q hk2).lt
    omega
section
variable {S : Type} {p : Program} {l : Launch} {e : Env} {R : Room} {s : State} {m : MethodId} {args : Array Value} {below : List Frame} {meth : Method} {c : Code} {H H0 : Heap} {locs : List Loc} {cells slots mc ms : Nat} {Q : State → Prop} {pc : Nat} {ls : Array Slot} {rest st0 : List Value} {a : Array Value} {D : va_G} {A : Nat → Prop} {F T WC : va_W} {WC' Fn W5 XX : S → va_W}
theorem z_wiT {post : Int32 → S → Prop} (hr : va_Run p l e R s m args below meth c H locs cells slots 0 0 (F0 m pc ls st0) rest (va_Qi post (zE D WC H.size WC') (va_A WC H.size) a) (va_A WC H.size)) (hP : va_P D vwCl (F ++ T) H) (hD : va_D A (F ++ T)) (hS : va_S A H0 H locs) (hA : ∀ q : Nat, H0.size ≤ q → A q) (isC : List Nat) (hC : isC.map (fun i => F[i]?) = WC.map some) (hW : ∀ u, (WC' u).map Prod.fst = WC.map Prod.fst) (hF : ∀ u, zPut F isC (WC' u) = Fn u)
    (kk : ∀ (r : Int32) (u : S) (H1 : Heap) (locs1 : List Loc), post r u → va_P D vwCl (Fn u ++ T) H1 → va_D A (Fn u ++ T) → va_S A H0 H1 locs1 → W p l e R s m args below meth c H1 locs1 (cells + 0) (slots + 0) Q (F0 m (pc + 3) ls (.int r :: rest))) : W p l e R s m args below meth c H locs cells slots Q (F0 m pc ls st0) := by
  have hFc := va_free (wc := WC) (z_df hD) hS hA isC hC
  refine va_calli hr hS (fun q _ h => hFc q h) hFc (fun r u t H1 locs1 ht _ hp hB _ hk hS1 => ?_)
  obtain ⟨hP1, -⟩ := hB
  rw [ht] at hP1
  obtain ⟨g1, g2⟩ := z_join hP hD isC hC hk hP1 (hW u)
  rw [hF u] at g1 g2
  exact kk r u H1 locs1 hp g1 g2 hS1
theorem z_wlT {post : Int64 → S → Prop} (hr : va_Run p l e R s m args below meth c H locs cells slots 0 0 (F0 m pc ls st0) rest (va_Ql post (zE D WC H.size WC') (va_A WC H.size) a) (va_A WC H.size)) (hP : va_P D vwCl (F ++ T) H) (hD : va_D A (F ++ T)) (hS : va_S A H0 H locs) (hA : ∀ q : Nat, H0.size ≤ q → A q) (isC : List Nat) (hC : isC.map (fun i => F[i]?) = WC.map some) (hW : ∀ u, (WC' u).map Prod.fst = WC.map Prod.fst) (hF : ∀ u, zPut F isC (WC' u) = Fn u)
    (kk : ∀ (r : Int64) (u : S) (H1 : Heap) (locs1 : List Loc), post r u → va_P D vwCl (Fn u ++ T) H1 → va_D A (Fn u ++ T) → va_S A H0 H1 locs1 → W p l e R s m args below meth c H1 locs1 (cells + 0) (slots + 0) Q (F0 m (pc + 3) ls (.long r :: rest))) : W p l e R s m args below meth c H locs cells slots Q (F0 m pc ls st0) := by
  have hFc := va_free (wc := WC) (z_df hD) hS hA isC hC
  refine va_calll hr hS (fun q _ h => hFc q h) hFc (fun r u t H1 locs1 ht _ hp hB _ hk hS1 => ?_)
  obtain ⟨hP1, -⟩ := hB
  rw [ht] at hP1
  obtain ⟨g1, g2⟩ := z_join hP hD isC hC hk hP1 (hW u)
  rw [hF u] at g1 g2
  exact kk r u H1 locs1 hp g1 g2 hS1
theorem z_put_addr {F T WC W1 : va_W} {isC : List Nat} (hC : isC.map (fun i => F[i]?) = WC.map some) (hW : W1.map Prod.fst = WC.map Prod.fst) {i : Nat} {q : Nat × va_E} (h : (zPut F isC W1 ++ T)[i]? = some q) : ∃ (j : Nat) (q' : Nat × va_E), (F ++ T)[j]? = some q' ∧ q'.1 = q.1 := by
  have hlen : isC.length = W1.length := by
    have a1 := congrArg List.length hC
    have a2 := congrArg List.length hW
    simp only [List.length_map] at a1 a2
    omega
  rcases List.mem_append.mp (List.mem_of_getElem? h) with hq | hq
  · obtain ⟨k, hk⟩ := List.getElem?_of_mem hq
    rcases zPut_get isC W1 F k q hlen hk with ⟨j, h1, h2⟩ | ⟨-, h2⟩
    · obtain ⟨q', g1, g2⟩ := z_part2 hC h1
      refine ⟨k, q', by rw [List.getElem?_append_left (List.getElem?_eq_some_iff.mp g2).1]; exact g2, ?_⟩
      have e1 : (W1.map Prod.fst)[j]? = some q.1 := by rw [List.getElem?_map, h2]; rfl
      rw [hW, List.getElem?_map, g1] at e1
      simpa using e1
    · exact ⟨k, q, by rw [List.getElem?_append_left (List.getElem?_eq_some_iff.mp h2).1]; exact h2, rfl⟩
  · obtain ⟨k, hk⟩ := List.getElem?_of_mem hq
    exact ⟨F.length + k, q, by rw [List.getElem?_append_right (by omega), Nat.add_sub_cancel_left]; exact hk, rfl⟩
theorem z_aiT {post : Int32 → S → Prop} (hr : va_Run p l e R s m args below meth c H locs cells slots mc ms (F0 m pc ls st0) rest (va_Qi post (zE D WC H.size (fun u => W5 u ++ XX u)) (va_A WC H.size) a) (va_A WC H.size)) (hP : va_P D vwCl (F ++ T) H) (hD : va_D A (F ++ T)) (hS : va_S A H0 H locs) (hA : ∀ q : Nat, H0.size ≤ q → A q) (isC : List Nat) (hC : isC.map (fun i => F[i]?) = WC.map some) (hW : ∀ u, (W5 u).map Prod.fst = WC.map Prod.fst) (hF : ∀ u, zPut F isC (W5 u) = Fn u)
    (kk : ∀ (r : Int32) (u : S) (H1 : Heap) (locs1 : List Loc), post r u → va_P D vwCl (Fn u ++ (T ++ XX u)) H1 → va_D A (Fn u ++ (T ++ XX u)) → va_S A H0 H1 locs1 → W p l e R s m args below meth c H1 locs1 (cells + mc) (slots + ms) Q (F0 m (pc + 3) ls (.int r :: rest))) : W p l e R s m args below meth c H locs cells slots Q (F0 m pc ls st0) := by
  have hFc := va_free (wc := WC) (z_df hD) hS hA isC hC
  refine va_calli hr hS (fun q _ h => hFc q h) hFc (fun r u t H1 locs1 ht _ hp hB _ hk hS1 => ?_)
  obtain ⟨hP1, hD1⟩ := hB
  rw [ht] at hP1
  obtain ⟨g1, g2⟩ := z_join hP hD isC hC hk (z_pf hP1) (hW u)
  have sub2 : ∀ {k : Nat} {q : Nat × va_E}, (XX u)[k]? = some q → (W5 u ++ XX u)[(W5 u).length + k]? = some q := fun {k q} hk => by rw [List.getElem?_append_right (by omega), Nat.add_sub_cancel_left]; exact hk
  have hDX : va_D A (XX u) := ⟨fun i j p q hi hj e => by
      have := hD1.1 _ _ p q (sub2 hi) (sub2 hj) e
      omega, fun k q hk => hFc _ (hD1.2 _ q (sub2 hk))⟩
  have g3 : va_D A ((zPut F isC (W5 u) ++ T) ++ XX u) := by
    refine va_D.app g2 hDX (fun i j p q hi hj e => ?_)
    obtain ⟨i', p', h1, h2⟩ := z_put_addr hC (hW u) hi
    have h3 : p'.1 < H.size := (hP _ p' h1).lt
    rcases hD1.2 _ q (sub2 hj) with ⟨k, e', hk'⟩ | hsz
    · have a1 : ((W5 u).map Prod.fst)[k]? = some q.1 := by rw [hW u, List.getElem?_map, hk']; rfl
      rw [List.getElem?_map] at a1
      cases hx : (W5 u)[k]? with
      | none => rw [hx] at a1; cases a1
      | some y =>
        rw [hx] at a1
        have a2 : y.1 = q.1 := by simpa using a1
        have hl := (List.getElem?_eq_some_iff.mp hx).1
        have := hD1.1 k _ y q (by rw [List.getElem?_append_left hl]; exact hx) (sub2 hj) a2
        omega
    · omega
  rw [hF u] at g1 g3
  refine kk r u H1 locs1 hp ?_ ?_ hS1
  · rw [← List.append_assoc]; exact va_P.app g1 (z_pp hP1)
  · rw [← List.append_assoc]; exact g3
end
def zMh (bM : Nat) (s : State) (H : Heap) : Prop := va_Z "BeatenInstead" "MATCHES" "[I" (.ref bM) (fun _ => False) s H ∧ va_X bM 18 (fun q_ => nI (zMN q_)) s H ∧ bM < H.size
theorem zMh.of {bM : Nat} {s : State} {H : Heap} {locs : List Loc} (h : zM bM s) (hS : va_S (fun q : Nat => s.heap.size ≤ q) s.heap H locs) : zMh bM s H := by
  obtain ⟨h1, h2, h3⟩ := h
  exact ⟨va_Z.kept h1 (fun a ha _ => hS.2.1 a ha (Nat.not_le.mpr ha)), va_X.kept h2 (hS.2.1 bM h3 (Nat.not_le.mpr h3)), Nat.lt_of_lt_of_le h3 hS.1⟩
theorem zMh.go {bM : Nat} {s U : State} {H : Heap} (hA : s.vm.Alike U.vm) (hh : U.heap = H) (h : zMh bM s H) : zM bM U := by
  obtain ⟨h1, h2, h3⟩ := h
  refine ⟨?_, ?_, by rw [hh]; exact h3⟩
  · rw [hh]; exact va_Z.moved hA h1
  · rw [hh]; exact va_X.moved hA h2
section
variable {p : Program} {l : Launch} {e : Env} {R : Room} {s : State} {m : MethodId} {args : Array Value} {below : List Frame} {meth : Method} {c : Code} {H : Heap} {locs : List Loc} {cells slots : Nat} {Q : State → Prop} {pc : Nat} {ls : Array Slot} {rest st0 : List Value}
theorem z_runVMh {D : va_G} {cI cB cP : ClassId} {bM : Nat} {y : MethodName} {bytes cc : ByteArray} {maxL nL n index : Nat} {ret : Option FieldType} {ws ws' : List Cond} {fr lo : Nat} {Qc : Array Value → State → Outcome → State → Prop} {Ts : List Cond} {own C : String} {b : Addr} {As : List Value} {RS : va_W}
    (hx : p.tables.exec = Jvm.exec) (hb : c.code = cc) (hml : c.maxLocals = nL) (hown : s.vm.findClass own = some m.cls) (hts : ∀ w ∈ Ts, w.before args s = true) (hK : va_K D vwCl (zT cI cB cP) s) (hN : zN s) (hlz : ls.size = nL)
    (hM : Met l y ws { frames := fr, cells := 0, slots := 0, locals := lo } (va_Pc (.ref b :: As) (zRM D cI cB cP bM RS)) Qc 0 0 (fun _ => False)) (hM_ : zMh bM s H) (hG : GoodIn Ts (wsV own index C y ws)) (hw : ws = Cond.code y bytes maxL ret :: ws')
    (hd : y.cls = C ∧ y.cls ≠ "java/lang/invoke/MethodHandle" ∧ y.cls ≠ "java/lang/invoke/VarHandle" ∧ (parseMethodDescriptor y.desc).map (fun d => d.parameters.length) = some n) (hn : As.length = n) (hR1 : fr + 1 ≤ R.frames) (hR2 : 8 + (maxL + 11) + lo ≤ R.locals)
    (hP : va_P D vwCl RS H) (hrc : ∃ cell : Cell, H[b]? = some cell ∧ cell.vm.isStatics = false ∧ s.vm.findClass C = some cell.cls) (hst : st0 = As.reverse ++ .ref b :: rest) (hW : (rest.map fun v => v.category).sum ≤ 8) (hdg : decode cc pc = .ok (.invokevirtual index, 3)) (hf : cells ≤ R.cells ∧ slots ≤ R.slots) :
    CallRun p l e R s m args below meth c H locs cells slots 0 0 (F0 m pc ls st0) rest (Qc (Value.ref b :: As).toArray) (fun _ => False) :=
  W.runV ⟨hx, hb, hml, hown, hts⟩ hM (cwV n hts hG hw rfl rfl hd ⟨hR1, hR2⟩) ⟨zRM_blind, hrc, fun U hU hW => ⟨rfl, ⟨by rw [hU]; exact hP, va_K.moved hW.alike hK, hN.warm hW⟩, zMh.go hW.alike hU hM_⟩⟩ rfl hn hlz hst (lv_room hW) hdg hf
end
theorem z_eqt {args : Array Value} {s : State} {t : Term} {z : Int32} (h : (Cond.eq t (.int z)).before args s = true) : t.eval args s none [] s = some (.int z) := by
  cases hv : t.eval args s none [] s with
  | none => simp [Cond.before, Cond.holds, Cond.value, hv] at h
  | some w =>
    have hz : (Term.int z).eval args s none [] s = some (.int z) := rfl
    simp only [Cond.before, Cond.holds, Cond.value, hv, hz] at h
    cases w <;> simp_all
theorem z_lent {args : Array Value} {s : State} {t : Term} {z : Int32} (h : (Term.length t).eval args s none [] s = some (.int z)) : ∃ (a : Addr) (cell : Cell), t.eval args s none [] s = some (.ref a) ∧ s.arrayAt? a = some cell ∧ cell.slots.size < 2147483648 ∧ nI cell.slots.size = z := by
  simp only [Term.eval, Option.bind_eq_bind] at h
  cases ht : t.eval args s none [] s with
  | none => simp [ht] at h
  | some x =>
    cases x <;> simp [ht] at h
    case ref a =>
      obtain ⟨cell, hcell, h⟩ := Option.bind_eq_some_iff.mp h
      by_cases hn : cell.slots.size < 2147483648
      · rw [if_pos hn] at h; cases h; exact ⟨a, cell, rfl, hcell, hn, rfl⟩
      · rw [if_neg hn] at h; cases h
theorem z_elt {args : Array Value} {s : State} {t : Term} {a : Addr} {cell : Cell} {j z : Int32} (hv : t.eval args s none [] s = some (.ref a)) (hc : s.arrayAt? a = some cell) (h : (Cond.eq (.elem t (.int j)) (.int z)).before args s = true) : cell.slots[j.toNatClampNeg]? = some (.int z) := by
  obtain ⟨a', j', cell', h1, h2, h3, -, h5⟩ := Term.elem_spec (z_eqt h)
  cases hv.symm.trans h1
  cases (show some (Value.int j) = some (Value.int j') from h2)
  cases hc.symm.trans h3
  exact h5
abbrev zStT : Term := .static "BeatenInstead" "MATCHES" "[I"
set_option maxRecDepth 100000 in
theorem zM_start {args : Array Value} {s : State} (hts : ∀ w ∈ lw_tbl, w.before args s = true) (hgv : (Jvm.Cond.and given_1 narrow_1).before args s = true) : ∃ bM, zM bM s := by
  have hs := flat_of_before _ hgv
  have h1 : (Cond.eq (.length (.static "BeatenInstead" "MATCHES" "[I")) (.int 18)).before args s = true := hs _ (by decide +kernel)
  have ha : (Cond.arrayOf (.static "BeatenInstead" "MATCHES" "[I") .int).before args s = true := hs _ (by decide +kernel)
  obtain ⟨a, cell, hv, hc, hn, hz⟩ := z_lent (z_eqt h1)
  obtain ⟨hcb, hkn, -, -⟩ := State.arrayAt?_spec hc
  obtain ⟨hof, -⟩ := Cond.arrayOf_spec ha hv hcb
  have hsz : cell.slots.size = 18 := (nI_eq hn (by omega)).mp hz
  refine ⟨a, va_Zof (hts _ (List.mem_append_right _ (List.mem_of_getElem? (i := 546) (by decide +kernel)))) (hts _ (List.mem_append_right _ (List.mem_of_getElem? (i := 1) (by decide +kernel)))) hv (fun _ _ h => h), ⟨cell, hcb, hof, hkn, hsz, fun j hj => ?_⟩, (Array.getElem?_eq_some_iff.mp hcb).1⟩
  rcases (show j = 0 ∨ j = 1 ∨ j = 2 ∨ j = 3 ∨ j = 4 ∨ j = 5 ∨ j = 6 ∨ j = 7 ∨ j = 8 ∨ j = 9 ∨ j = 10 ∨ j = 11 ∨ j = 12 ∨ j = 13 ∨ j = 14 ∨ j = 15 ∨ j = 16 ∨ j = 17 by omega) with rfl | rfl | rfl | rfl | rfl | rfl | rfl | rfl | rfl | rfl | rfl | rfl | rfl | rfl | rfl | rfl | rfl | rfl
  · exact z_elt hv hc (j := 0) (z := 0) (hs _ (by decide +kernel))
  · exact z_elt hv hc (j := 1) (z := 1) (hs _ (by decide +kernel))
  · exact z_elt hv hc (j := 2) (z := 2) (hs _ (by decide +kernel))
  · exact z_elt hv hc (j := 3) (z := 0) (hs _ (by decide +kernel))
  · exact z_elt hv hc (j := 4) (z := 2) (hs _ (by decide +kernel))
  · exact z_elt hv hc (j := 5) (z := 1) (hs _ (by decide +kernel))
  · exact z_elt hv hc (j := 6) (z := 1) (hs _ (by decide +kernel))
  · exact z_elt hv hc (j := 7) (z := 0) (hs _ (by decide +kernel))
  · exact z_elt hv hc (j := 8) (z := 2) (hs _ (by decide +kernel))
  · exact z_elt hv hc (j := 9) (z := 1) (hs _ (by decide +kernel))
  · exact z_elt hv hc (j := 10) (z := 2) (hs _ (by decide +kernel))
  · exact z_elt hv hc (j := 11) (z := 0) (hs _ (by decide +kernel))
  · exact z_elt hv hc (j := 12) (z := 2) (hs _ (by decide +kernel))
  · exact z_elt hv hc (j := 13) (z := 0) (hs _ (by decide +kernel))
  · exact z_elt hv hc (j := 14) (z := 1) (hs _ (by decide +kernel))
  · exact z_elt hv hc (j := 15) (z := 2) (hs _ (by decide +kernel))
  · exact z_elt hv hc (j := 16) (z := 1) (hs _ (by decide +kernel))
  · exact z_elt hv hc (j := 17) (z := 0) (hs _ (by decide +kernel))
set_option maxRecDepth 100000 in
theorem zNW_in : ∀ w ∈ zNW, w ∈ lw_tbl := List.forall_mem_cons.mpr ⟨List.mem_append_right _ (List.mem_of_getElem? (i := 31) (by decide +kernel)), List.forall_mem_cons.mpr ⟨List.mem_append_right _ (List.mem_of_getElem? (i := 32) (by decide +kernel)), List.forall_mem_cons.mpr ⟨List.mem_append_right _ (List.mem_of_getElem? (i := 48) (by decide +kernel)), List.forall_mem_cons.mpr ⟨List.mem_append_right _ (List.mem_of_getElem? (i := 49) (by decide +kernel)), List.forall_mem_cons.mpr ⟨List.mem_append_right _ (List.mem_of_getElem? (i := 50) (by decide +kernel)), List.forall_mem_cons.mpr ⟨List.mem_append_right _ (List.mem_of_getElem? (i := 52) (by decide +kernel)), List.forall_mem_cons.mpr ⟨List.mem_append_right _ (List.mem_of_getElem? (i := 53) (by decide +kernel)), List.forall_mem_cons.mpr ⟨List.mem_append_right _ (List.mem_of_getElem? (i := 54) (by decide +kernel)), List.forall_mem_cons.mpr ⟨List.mem_append_right _ (List.mem_of_getElem? (i := 73) (by decide +kernel)), List.forall_mem_cons.mpr ⟨List.mem_append_right _ (List.mem_of_getElem? (i := 79) (by decide +kernel)), List.forall_mem_cons.mpr ⟨List.mem_append_right _ (List.mem_of_getElem? (i := 81) (by decide +kernel)), List.forall_mem_cons.mpr ⟨List.mem_append_right _ (List.mem_of_getElem? (i := 83) (by decide +kernel)), List.forall_mem_cons.mpr ⟨List.mem_append_right _ (List.mem_of_getElem? (i := 85) (by decide +kernel)), List.forall_mem_cons.mpr ⟨List.mem_append_right _ (List.mem_of_getElem? (i := 115) (by decide +kernel)), List.forall_mem_cons.mpr ⟨List.mem_append_right _ (List.mem_of_getElem? (i := 117) (by decide +kernel)), List.forall_mem_cons.mpr ⟨List.mem_append_right _ (List.mem_of_getElem? (i := 138) (by decide +kernel)), List.forall_mem_cons.mpr ⟨List.mem_append_right _ (List.mem_of_getElem? (i := 140) (by decide +kernel)), List.forall_mem_cons.mpr ⟨List.mem_append_right _ (List.mem_of_getElem? (i := 25) (by decide +kernel)), List.forall_mem_cons.mpr ⟨List.mem_append_right _ (List.mem_of_getElem? (i := 41) (by decide +kernel)), List.forall_mem_cons.mpr ⟨List.mem_append_right _ (List.mem_of_getElem? (i := 68) (by decide +kernel)), List.forall_mem_cons.mpr ⟨List.mem_append_right _ (List.mem_of_getElem? (i := 107) (by decide +kernel)), List.forall_mem_cons.mpr ⟨List.mem_append_right _ (List.mem_of_getElem? (i := 131) (by decide +kernel)), List.forall_mem_cons.mpr ⟨List.mem_append_right _ (List.mem_of_getElem? (i := 188) (by decide +kernel)), List.forall_mem_cons.mpr ⟨List.mem_append_right _ (List.mem_of_getElem? (i := 192) (by decide +kernel)), List.forall_mem_cons.mpr ⟨List.mem_append_right _ (List.mem_of_getElem? (i := 203) (by decide +kernel)), List.forall_mem_cons.mpr ⟨List.mem_append_right _ (List.mem_of_getElem? (i := 219) (by decide +kernel)), List.forall_mem_cons.mpr ⟨List.mem_append_right _ (List.mem_of_getElem? (i := 234) (by decide +kernel)), List.forall_mem_cons.mpr ⟨List.mem_append_right _ (List.mem_of_getElem? (i := 239) (by decide +kernel)), List.forall_mem_cons.mpr ⟨List.mem_append_right _ (List.mem_of_getElem? (i := 243) (by decide +kernel)), List.forall_mem_cons.mpr ⟨List.mem_append_right _ (List.mem_of_getElem? (i := 244) (by decide +kernel)), List.forall_mem_cons.mpr ⟨List.mem_append_right _ (List.mem_of_getElem? (i := 245) (by decide +kernel)), List.forall_mem_cons.mpr ⟨List.mem_append_right _ (List.mem_of_getElem? (i := 249) (by decide +kernel)), List.forall_mem_cons.mpr ⟨List.mem_append_right _ (List.mem_of_getElem? (i := 256) (by decide +kernel)), List.forall_mem_cons.mpr ⟨List.mem_append_right _ (List.mem_of_getElem? (i := 260) (by decide +kernel)), List.forall_mem_cons.mpr ⟨List.mem_append_right _ (List.mem_of_getElem? (i := 264) (by decide +kernel)), List.forall_mem_cons.mpr ⟨List.mem_append_right _ (List.mem_of_getElem? (i := 265) (by decide +kernel)), List.forall_mem_cons.mpr ⟨List.mem_append_right _ (List.mem_of_getElem? (i := 269) (by decide +kernel)), List.forall_mem_cons.mpr ⟨List.mem_append_right _ (List.mem_of_getElem? (i := 277) (by decide +kernel)), List.forall_mem_cons.mpr ⟨List.mem_append_right _ (List.mem_of_getElem? (i := 278) (by decide +kernel)), List.forall_mem_cons.mpr ⟨List.mem_append_right _ (List.mem_of_getElem? (i := 285) (by decide +kernel)), List.forall_mem_cons.mpr ⟨List.mem_append_right _ (List.mem_of_getElem? (i := 292) (by decide +kernel)), List.forall_mem_cons.mpr ⟨List.mem_append_right _ (List.mem_of_getElem? (i := 349) (by decide +kernel)), List.forall_mem_cons.mpr ⟨List.mem_append_right _ (List.mem_of_getElem? (i := 357) (by decide +kernel)), List.forall_mem_cons.mpr ⟨List.mem_append_right _ (List.mem_of_getElem? (i := 387) (by decide +kernel)), List.forall_mem_cons.mpr ⟨List.mem_append_right _ (List.mem_of_getElem? (i := 391) (by decide +kernel)), List.forall_mem_cons.mpr ⟨List.mem_append_right _ (List.mem_of_getElem? (i := 418) (by decide +kernel)), List.forall_mem_cons.mpr ⟨List.mem_append_right _ (List.mem_of_getElem? (i := 419) (by decide +kernel)), List.forall_mem_cons.mpr ⟨List.mem_append_right _ (List.mem_of_getElem? (i := 441) (by decide +kernel)), List.forall_mem_cons.mpr ⟨List.mem_append_right _ (List.mem_of_getElem? (i := 446) (by decide +kernel)), List.forall_mem_cons.mpr ⟨List.mem_append_right _ (List.mem_of_getElem? (i := 451) (by decide +kernel)), List.forall_mem_cons.mpr ⟨List.mem_append_right _ (List.mem_of_getElem? (i := 475) (by decide +kernel)), List.forall_mem_cons.mpr ⟨List.mem_append_right _ (List.mem_of_getElem? (i := 479) (by decide +kernel)), List.forall_mem_cons.mpr ⟨List.mem_append_right _ (List.mem_of_getElem? (i := 484) (by decide +kernel)), List.forall_mem_cons.mpr ⟨List.mem_append_right _ (List.mem_of_getElem? (i := 499) (by decide +kernel)), List.forall_mem_cons.mpr ⟨List.mem_append_right _ (List.mem_of_getElem? (i := 503) (by decide +kernel)), List.forall_mem_cons.mpr ⟨List.mem_append_right _ (List.mem_of_getElem? (i := 514) (by decide +kernel)), List.forall_mem_cons.mpr ⟨List.mem_append_right _ (List.mem_of_getElem? (i := 515) (by decide +kernel)), List.forall_mem_cons.mpr ⟨List.mem_append_right _ (List.mem_of_getElem? (i := 516) (by decide +kernel)), List.forall_mem_cons.mpr ⟨List.mem_append_right _ (List.mem_of_getElem? (i := 517) (by decide +kernel)), List.forall_mem_cons.mpr ⟨List.mem_append_right _ (List.mem_of_getElem? (i := 518) (by decide +kernel)), List.forall_mem_cons.mpr ⟨List.mem_append_right _ (List.mem_of_getElem? (i := 519) (by decide +kernel)), List.forall_mem_cons.mpr ⟨List.mem_append_right _ (List.mem_of_getElem? (i := 522) (by decide +kernel)), List.forall_mem_cons.mpr ⟨List.mem_append_right _ (List.mem_of_getElem? (i := 523) (by decide +kernel)), List.forall_mem_cons.mpr ⟨List.mem_append_right _ (List.mem_of_getElem? (i := 553) (by decide +kernel)), List.forall_mem_cons.mpr ⟨List.mem_append_right _ (List.mem_of_getElem? (i := 561) (by decide +kernel)), List.forall_mem_cons.mpr ⟨List.mem_append_right _ (List.mem_of_getElem? (i := 562) (by decide +kernel)), List.forall_mem_cons.mpr ⟨List.mem_append_right _ (List.mem_of_getElem? (i := 563) (by decide +kernel)), List.forall_mem_cons.mpr ⟨List.mem_append_right _ (List.mem_of_getElem? (i := 564) (by decide +kernel)), List.forall_mem_cons.mpr ⟨List.mem_append_right _ (List.mem_of_getElem? (i := 565) (by decide +kernel)), List.forall_mem_cons.mpr ⟨List.mem_append_right _ (List.mem_of_getElem? (i := 570) (by decide +kernel)), List.forall_mem_cons.mpr ⟨List.mem_append_right _ (List.mem_of_getElem? (i := 590) (by decide +kernel)), List.forall_mem_cons.mpr ⟨List.mem_append_right _ (List.mem_of_getElem? (i := 594) (by decide +kernel)), List.forall_mem_cons.mpr ⟨List.mem_append_right _ (List.mem_of_getElem? (i := 606) (by decide +kernel)), List.forall_mem_cons.mpr ⟨List.mem_append_right _ (List.mem_of_getElem? (i := 610) (by decide +kernel)), List.forall_mem_cons.mpr ⟨List.mem_append_right _ (List.mem_of_getElem? (i := 613) (by decide +kernel)), List.forall_mem_cons.mpr ⟨List.mem_append_right _ (List.mem_of_getElem? (i := 654) (by decide +kernel)), List.forall_mem_cons.mpr ⟨List.mem_append_right _ (List.mem_of_getElem? (i := 1064) (by decide +kernel)), List.forall_mem_cons.mpr ⟨List.mem_append_right _ (List.mem_of_getElem? (i := 1065) (by decide +kernel)), List.forall_mem_cons.mpr ⟨List.mem_append_right _ (List.mem_of_getElem? (i := 1066) (by decide +kernel)), List.forall_mem_cons.mpr ⟨List.mem_append_right _ (List.mem_of_getElem? (i := 1067) (by decide +kernel)), List.forall_mem_cons.mpr ⟨List.mem_append_right _ (List.mem_of_getElem? (i := 1068) (by decide +kernel)), fun _ h => absurd h List.not_mem_nil⟩⟩⟩⟩⟩⟩⟩⟩⟩⟩⟩⟩⟩⟩⟩⟩⟩⟩⟩⟩⟩⟩⟩⟩⟩⟩⟩⟩⟩⟩⟩⟩⟩⟩⟩⟩⟩⟩⟩⟩⟩⟩⟩⟩⟩⟩⟩⟩⟩⟩⟩⟩⟩⟩⟩⟩⟩⟩⟩⟩⟩⟩⟩⟩⟩⟩⟩⟩⟩⟩⟩⟩⟩⟩⟩⟩⟩⟩⟩⟩⟩
theorem zNW_on : ∀ w ∈ zNW, w.onTables = true := by decide +kernel
set_option maxRecDepth 100000 in
theorem zN_start {args : Array Value} {s : State} (hts : ∀ w ∈ lw_tbl, w.before args s = true) (hgv : (Jvm.Cond.and given_1 narrow_1).before args s = true) : zN s := by
  have hs := flat_of_before _ hgv
  refine ⟨fun w hw => va_Nw.of (zNW_on w hw) (hts w (zNW_in w hw)), fun q hq => va_Nc.of (hs _ ?_), va_AO.of (hts _ (List.mem_append_right _ (List.mem_of_getElem? (i := 65) (by decide +kernel))))⟩
  revert q
  decide +kernel
set_option maxRecDepth 100000 in
theorem zK_start {args : Array Value} {s : State} (hts : ∀ w ∈ lw_tbl, w.before args s = true) : ∃ (D : va_G) (cI cB cP : ClassId), va_K D vwCl (zT cI cB cP) s := by
  obtain ⟨c0, i0, hc0⟩ := u_known (C := RX0) (T := TX0) (N := 4) (n := 4) hts zl_wsX00 (hts (.instantiable RX0 4) (List.mem_append_right _ (List.mem_of_getElem? (i := 130) (by decide +kernel))))
  obtain ⟨c1, i1, hc1⟩ := u_known (C := RX1) (T := TX1) (N := 1) (n := 1) hts zl_wsX10 (hts (.instantiable RX1 1) (List.mem_append_right _ (List.mem_of_getElem? (i := 322) (by decide +kernel))))
  obtain ⟨c2, i2, hc2⟩ := u_known (C := RX2) (T := TX2) (N := 1) (n := 1) hts zl_wsX20 (hts (.instantiable RX2 1) (List.mem_append_right _ (List.mem_of_getElem? (i := 338) (by decide +kernel))))
  obtain ⟨c3, i3, hc3⟩ := u_known (C := RX3) (T := TX3) (N := 1) (n := 1) hts zl_wsX30 (hts (.instantiable RX3 1) (List.mem_append_right _ (List.mem_of_getElem? (i := 330) (by decide +kernel))))
  obtain ⟨c4, i4, hc4⟩ := u_known (C := RX4) (T := TX4) (N := 5) (n := 5) hts zl_wsX40 (hts (.instantiable RX4 5) (List.mem_append_right _ (List.mem_of_getElem? (i := 106) (by decide +kernel))))
  obtain ⟨c5, i5, hc5⟩ := u_known (C := RX5) (T := TX5) (N := 2) (n := 2) hts zl_wsX50 (hts (.instantiable RX5 2) (List.mem_append_right _ (List.mem_of_getElem? (i := 24) (by decide +kernel))))
  obtain ⟨c6, i6, hc6⟩ := u_known (C := RX6) (T := TX6) (N := 1) (n := 1) hts zl_wsX60 (hts (.instantiable RX6 1) (List.mem_append_right _ (List.mem_of_getElem? (i := 345) (by decide +kernel))))
  obtain ⟨c7, i7, hc7⟩ := u_known (C := RX7) (T := TX7) (N := 1) (n := 1) hts zl_wsX70 (hts (.instantiable RX7 1) (List.mem_append_right _ (List.mem_of_getElem? (i := 307) (by decide +kernel))))
  obtain ⟨c8, i8, hc8⟩ := u_known (C := RX8) (T := TX8) (N := 9) (n := 9) hts zl_wsX80 (hts (.instantiable RX8 9) (List.mem_append_right _ (List.mem_of_getElem? (i := 67) (by decide +kernel))))
  obtain ⟨c9, i9, hc9⟩ := u_known (C := RX9) (T := TX9) (N := 4) (n := 4) hts zl_wsX90 (hts (.instantiable RX9 4) (List.mem_append_right _ (List.mem_of_getElem? (i := 40) (by decide +kernel))))
  obtain ⟨c10, i10, hc10⟩ := u_known (C := RX10) (T := TX10) (N := 11) (n := 11) hts zl_wsX100 (hts (.instantiable RX10 11) (List.mem_append_right _ (List.mem_of_getElem? (i := 16) (by decide +kernel))))
  obtain ⟨c11, i11, hc11⟩ := u_known (C := RX11) (T := TX11) (N := 40) (n := 40) hts zl_wsX110 (hts (.instantiable RX11 40) (List.mem_append_right _ (List.mem_of_getElem? (i := 657) (by decide +kernel))))
  obtain ⟨cI, kI, compI, hI1, hI2, hI3⟩ := Cond.arrayClass_spec (hts (.arrayClass .int) (List.mem_append_right _ (List.mem_of_getElem? (i := 38) (by decide +kernel))))
  obtain ⟨cB, kB, compB, hB1, hB2, hB3⟩ := Cond.arrayClass_spec (hts (.arrayClass .byte) (List.mem_append_right _ (List.mem_of_getElem? (i := 783) (by decide +kernel))))
  obtain ⟨comp, cP, kP, hP1, hP2, hP3, hP4, hP5⟩ := Cond.arrayOver_spec (hts (.arrayOver (.object "BeatenInstead$Prince")) (List.mem_append_right _ (List.mem_of_getElem? (i := 65) (by decide +kernel))))
  refine ⟨(fun k => [c0, c1, c2, c3, c4, c5, c6, c7, c8, c9, c10, c11].getD k c0, fun k => [i0, i1, i2, i3, i4, i5, i6, i7, i8, i9, i10, i11].getD k i0), cI, cB, cP, fun k q hq => ?_, fun k q hq => ?_⟩
  · match k, hq with
    | 0, hq => cases hq; exact hc0
    | 1, hq => cases hq; exact hc1
    | 2, hq => cases hq; exact hc2
    | 3, hq => cases hq; exact hc3
    | 4, hq => cases hq; exact hc4
    | 5, hq => cases hq; exact hc5
    | 6, hq => cases hq; exact hc6
    | 7, hq => cases hq; exact hc7
    | 8, hq => cases hq; exact hc8
    | 9, hq => cases hq; exact hc9
    | 10, hq => cases hq; exact hc10
    | 11, hq => cases hq; exact hc11
    | k + 12, hq => simp [vwCl] at hq
  · match k, hq with
    | 0, hq => cases hq; exact ⟨fun n z => ⟨fun k h => (by cases h), kI, hI2, compI, hI3⟩, hI1⟩
    | 1, hq => cases hq; exact ⟨fun n z => ⟨fun k h => (by cases h), kB, hB2, compB, hB3⟩, hB1⟩
    | 2, hq => cases hq; exact ⟨fun n z => ⟨fun k h => (by cases h), kP, hP3, comp, hP4⟩, kP, comp, hP3, hP4, hP1, hP5⟩
    | k + 3, hq => simp [zT] at hq
