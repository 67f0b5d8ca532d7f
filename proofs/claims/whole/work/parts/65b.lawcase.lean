set_option maxHeartbeats 4000000 in
set_option maxRecDepth 100000 in
theorem zCase_prince {p : Program} {l : Launch} {e : Env} {s : State} {m : MethodId} {below : List Frame} {meth : Method} {c : Code} {H : Heap} {locs : List Loc} {cells slots : Nat} {Q : State → Prop} {ls : Array Slot} {D : va_G} {cI cB cP : ClassId} {bM b jj L i : Nat} {xs : Nat → Int32} {W0 : va_W} {x : Nat} {x_pg : Nat} {x_tx : Nat} {x_pr : Nat} {x_nw : Nat} {x_kp : Nat} {x_tr : Nat} {x_or : Nat} {x_bl : Nat} {g1 : Nat} {t1 : Nat} {t2 : Nat} {a1 : Nat} {a2 : Nat} {a3 : Nat} {a4 : Nat} {a5 : Nat} {a6 : Nat} {a7 : Nat} {k_a1 : Nat} {k_a2 : Nat} {k_a3 : Nat} {k_a4 : Nat} {k_a5 : Nat} {k_a6 : Nat} {k_a7 : Nat} {u_a1 : Nat} {u_a2 : Nat} {u_a3 : Nat} {u_a4 : Nat} {u_a5 : Nat} {u_a6 : Nat} {u_a7 : Nat} {q1 : Nat} {q2 : Nat} {mo : Nat} {m_hard : Nat} {m_blows : Nat} {m_stripes : Nat} {m_kd : Nat} {m_wt : Nat} {m_boys : Nat} {m_learnt : Nat} {m_fond : Nat} {m_qp : Nat} {m_ql : Nat} {m_qr : Nat} {m_codes : Nat} {m_left : Nat} {m_row : Nat} {m_sv : Nat} {m_k_fond : Nat} {m_k_stripes : Nat} {m_k_learnt : Nat} {m_k_boys : Nat} {m_k_qp : Nat} {m_k_ql : Nat} {m_k_qr : Nat} (hC : zLw p s m c D cI cB cP bM b) (hX : va_X b L xs s s.heap) (hbl : b < s.heap.size) (hL : L ≤ 256) (hi : i + 4 ≤ L) (hjj : jj ≤ 64) (hG : zGw cI cB cP x x_pg x_tx x_pr x_nw x_kp x_tr x_or x_bl g1 t1 t2 a1 a2 a3 a4 a5 a6 a7 k_a1 k_a2 k_a3 k_a4 k_a5 k_a6 k_a7 u_a1 u_a2 u_a3 u_a4 u_a5 u_a6 u_a7 q1 q2 mo m_hard m_blows m_stripes m_kd m_wt m_boys m_learnt m_fond m_qp m_ql m_qr m_codes m_left m_row m_sv m_k_fond m_k_stripes m_k_learnt m_k_boys m_k_qp m_k_ql m_k_qr jj W0) (hP : va_P D vwCl W0 H) (hD : va_D (zAl s) W0) (hS : va_S (zAl s) s.heap H locs) (hl : lv_has ls 4 [(0, .ref b), (1, .ref x), (2, .ref mo), (3, .int (nI i))]) (hc : cells + 1 ≤ 638368 ∧ slots + 1 ≤ 7187145) (K : ∀ (W1 : va_W) (H1 : Heap) (locs1 : List Loc), zGw cI cB cP x x_pg x_tx x_pr x_nw x_kp x_tr x_or x_bl g1 t1 t2 a1 a2 a3 a4 a5 a6 a7 k_a1 k_a2 k_a3 k_a4 k_a5 k_a6 k_a7 u_a1 u_a2 u_a3 u_a4 u_a5 u_a6 u_a7 q1 q2 mo m_hard m_blows m_stripes m_kd m_wt m_boys m_learnt m_fond m_qp m_ql m_qr m_codes m_left m_row m_sv m_k_fond m_k_stripes m_k_learnt m_k_boys m_k_qp m_k_ql m_k_qr (jj + 1) W1 → va_P D vwCl W1 H1 → va_D (zAl s) W1 → va_S (zAl s) s.heap H1 locs1 → W p l e room_1 s m #[Value.ref b] below meth c H1 locs1 (cells + 1) (slots + 1) Q (F0 m 840 ls [])) : W p l e room_1 s m #[Value.ref b] below meth c H locs cells slots Q (F0 m 262 ls []) := by
  obtain ⟨pool, owh, obm, best, b1, b2, b3, b4, u_np, u_nh, u_fond, u_boys, u_learnt, u_stripes, u_qp, u_ql, u_qr, wI, nM, sS, sF, lM, sN, sv, hh, tR, tO, size, codes, lessons, limit, hard, blows, np, nh, fond, boys, learnt, stripes, qp, ql, qr, k_np, k_nh, k_fond, k_boys, k_learnt, k_stripes, k_qp, k_ql, k_qr, hI, pr, osz, path, kd, wt, left, row, kS, iK, hv, rfl⟩ := hG
  obtain ⟨hx, hb, hml, hown, hts, hK, hN, hM⟩ := id hC
  have hbA : ¬ zAl s b := Nat.not_le.mpr hbl
  refine lv_aload_n hx hb dL_law_262 rfl (lv_at hl 1 rfl) ?_
  refine lv_aload_n hx hb dL_law_263 rfl (lv_at hl 0 rfl) ?_
  refine lv_iload_n hx hb dL_law_264 rfl (lv_at hl 3 rfl) ?_
  refine lv_iconst (v := 1) hx hb dL_law_265 (by decide) ?_
  refine lv_iadd hx hb dL_law_266 ?_
  refine z_top (show nI i + 1 = nI (i + 1) from nI_add i 1) ?_
  refine va_sld hx hb hX hbl hbA hS (vp_in_nI (by omega) (by omega)) dL_law_267 ?_
  refine z_top (z_ld (f := xs) (a := i + 1) (by omega) rfl) ?_
  refine lv_aload_n hx hb dL_law_268 rfl (lv_at hl 0 rfl) ?_
  refine lv_iload_n hx hb dL_law_269 rfl (lv_at hl 3 rfl) ?_
  refine lv_iconst (v := 2) hx hb dL_law_270 (by decide) ?_
  refine lv_iadd hx hb dL_law_271 ?_
  refine z_top (show nI i + 2 = nI (i + 2) from nI_add i 2) ?_
  refine va_sld hx hb hX hbl hbA hS (vp_in_nI (by omega) (by omega)) dL_law_272 ?_
  refine z_top (z_ld (f := xs) (a := i + 2) (by omega) rfl) ?_
  refine zL_X10_prince hC hv (by omega) hP hD hS hl.1 ⟨by show cells + 1 ≤ 638368; omega, by show slots + 1 ≤ 7187145; omega⟩ (xs (i + 1)) (xs (i + 2)) (fun z_u_pr z_u_new H locs hu1 hu2 hP hD hS => ?_)
  rw [List.append_assoc] at hP hD
  refine lv_aload_n hx hb dL_law_276 rfl (lv_at hl 2 rfl) ?_
  refine lv_aload_n hx hb dL_law_277 rfl (lv_at hl 0 rfl) ?_
  refine lv_iload_n hx hb dL_law_278 rfl (lv_at hl 3 rfl) ?_
  refine lv_iconst (v := 1) hx hb dL_law_279 (by decide) ?_
  refine lv_iadd hx hb dL_law_280 ?_
  refine z_top (show nI i + 1 = nI (i + 1) from nI_add i 1) ?_
  refine va_sld hx hb hX hbl hbA hS (vp_in_nI (by omega) (by omega)) dL_law_281 ?_
  refine z_top (z_ld (f := xs) (a := i + 1) (by omega) rfl) ?_
  refine lv_aload_n hx hb dL_law_282 rfl (lv_at hl 0 rfl) ?_
  refine lv_iload_n hx hb dL_law_283 rfl (lv_at hl 3 rfl) ?_
  refine lv_iconst (v := 2) hx hb dL_law_284 (by decide) ?_
  refine lv_iadd hx hb dL_law_285 ?_
  refine z_top (show nI i + 2 = nI (i + 2) from nI_add i 2) ?_
  refine va_sld hx hb hX hbl hbA hS (vp_in_nI (by omega) (by omega)) dL_law_286 ?_
  refine z_top (z_ld (f := xs) (a := i + 2) (by omega) rfl) ?_
  refine zL_X11_prince hC hv (by omega) (z_swP hP) (z_swD hD) hS hl.1 ⟨by show cells + 1 ≤ 638368; omega, by show slots + 1 ≤ 7187145; omega⟩ (xs (i + 1)) (xs (i + 2)) _ (fun  H locs  hP hD hS => ?_)
  have hP := z_swP hP
  have hD := z_swD hD
  refine lv_icmp_eq (tgt := 840) hx hb dL_law_290 (by decide) (fun _ => ?_) (fun q => absurd rfl q)
  exact K _ H locs ⟨(pool ++ z_u_new), owh, obm, best, b1, b2, b3, b4, u_np, u_nh, u_fond, u_boys, u_learnt, u_stripes, u_qp, u_ql, u_qr, wI, nM, sS, sF, lM, sN, sv, hh, tR, tO, size, codes, lessons, limit, hard, blows, if zPrM lessons np (xs (i + 1)) (xs (i + 2)) = 3 then np + 1 else np, nh, if zPrM lessons np (xs (i + 1)) (xs (i + 2)) = 3 then zFive fond np 3 else fond, if zPrM lessons np (xs (i + 1)) (xs (i + 2)) = 3 then va_up boys np np else boys, if zPrM lessons np (xs (i + 1)) (xs (i + 2)) = 3 then va_up learnt np 0 else learnt, stripes, qp, ql, qr, k_np, k_nh, k_fond, k_boys, k_learnt, k_stripes, k_qp, k_ql, k_qr, hI, z_u_pr, osz, path, if zPrM lessons np (xs (i + 1)) (xs (i + 2)) = 3 then va_up kd np (xs (i + 1)).toNatClampNeg else kd, if zPrM lessons np (xs (i + 1)) (xs (i + 2)) = 3 then va_up wt np (xs (i + 2)).toNatClampNeg else wt, left, row, kS, iK, zI_prince hv (xs (i + 1)) (xs (i + 2)) hu1 hu2, rfl⟩ hP hD hS

set_option maxHeartbeats 4000000 in
set_option maxRecDepth 100000 in
theorem zCase_about {p : Program} {l : Launch} {e : Env} {s : State} {m : MethodId} {below : List Frame} {meth : Method} {c : Code} {H : Heap} {locs : List Loc} {cells slots : Nat} {Q : State → Prop} {ls : Array Slot} {D : va_G} {cI cB cP : ClassId} {bM b jj L i : Nat} {xs : Nat → Int32} {W0 : va_W} {x : Nat} {x_pg : Nat} {x_tx : Nat} {x_pr : Nat} {x_nw : Nat} {x_kp : Nat} {x_tr : Nat} {x_or : Nat} {x_bl : Nat} {g1 : Nat} {t1 : Nat} {t2 : Nat} {a1 : Nat} {a2 : Nat} {a3 : Nat} {a4 : Nat} {a5 : Nat} {a6 : Nat} {a7 : Nat} {k_a1 : Nat} {k_a2 : Nat} {k_a3 : Nat} {k_a4 : Nat} {k_a5 : Nat} {k_a6 : Nat} {k_a7 : Nat} {u_a1 : Nat} {u_a2 : Nat} {u_a3 : Nat} {u_a4 : Nat} {u_a5 : Nat} {u_a6 : Nat} {u_a7 : Nat} {q1 : Nat} {q2 : Nat} {mo : Nat} {m_hard : Nat} {m_blows : Nat} {m_stripes : Nat} {m_kd : Nat} {m_wt : Nat} {m_boys : Nat} {m_learnt : Nat} {m_fond : Nat} {m_qp : Nat} {m_ql : Nat} {m_qr : Nat} {m_codes : Nat} {m_left : Nat} {m_row : Nat} {m_sv : Nat} {m_k_fond : Nat} {m_k_stripes : Nat} {m_k_learnt : Nat} {m_k_boys : Nat} {m_k_qp : Nat} {m_k_ql : Nat} {m_k_qr : Nat} (hC : zLw p s m c D cI cB cP bM b) (hX : va_X b L xs s s.heap) (hbl : b < s.heap.size) (hL : L ≤ 256) (hi : i + 4 ≤ L) (hjj : jj ≤ 64) (hG : zGw cI cB cP x x_pg x_tx x_pr x_nw x_kp x_tr x_or x_bl g1 t1 t2 a1 a2 a3 a4 a5 a6 a7 k_a1 k_a2 k_a3 k_a4 k_a5 k_a6 k_a7 u_a1 u_a2 u_a3 u_a4 u_a5 u_a6 u_a7 q1 q2 mo m_hard m_blows m_stripes m_kd m_wt m_boys m_learnt m_fond m_qp m_ql m_qr m_codes m_left m_row m_sv m_k_fond m_k_stripes m_k_learnt m_k_boys m_k_qp m_k_ql m_k_qr jj W0) (hP : va_P D vwCl W0 H) (hD : va_D (zAl s) W0) (hS : va_S (zAl s) s.heap H locs) (hl : lv_has ls 4 [(0, .ref b), (1, .ref x), (2, .ref mo), (3, .int (nI i))]) (hc : cells + 1 ≤ 638368 ∧ slots + 1 ≤ 7187145) (K : ∀ (W1 : va_W) (H1 : Heap) (locs1 : List Loc), zGw cI cB cP x x_pg x_tx x_pr x_nw x_kp x_tr x_or x_bl g1 t1 t2 a1 a2 a3 a4 a5 a6 a7 k_a1 k_a2 k_a3 k_a4 k_a5 k_a6 k_a7 u_a1 u_a2 u_a3 u_a4 u_a5 u_a6 u_a7 q1 q2 mo m_hard m_blows m_stripes m_kd m_wt m_boys m_learnt m_fond m_qp m_ql m_qr m_codes m_left m_row m_sv m_k_fond m_k_stripes m_k_learnt m_k_boys m_k_qp m_k_ql m_k_qr (jj + 1) W1 → va_P D vwCl W1 H1 → va_D (zAl s) W1 → va_S (zAl s) s.heap H1 locs1 → W p l e room_1 s m #[Value.ref b] below meth c H1 locs1 (cells + 1) (slots + 1) Q (F0 m 840 ls [])) : W p l e room_1 s m #[Value.ref b] below meth c H locs cells slots Q (F0 m 295 ls []) := by
  obtain ⟨pool, owh, obm, best, b1, b2, b3, b4, u_np, u_nh, u_fond, u_boys, u_learnt, u_stripes, u_qp, u_ql, u_qr, wI, nM, sS, sF, lM, sN, sv, hh, tR, tO, size, codes, lessons, limit, hard, blows, np, nh, fond, boys, learnt, stripes, qp, ql, qr, k_np, k_nh, k_fond, k_boys, k_learnt, k_stripes, k_qp, k_ql, k_qr, hI, pr, osz, path, kd, wt, left, row, kS, iK, hv, rfl⟩ := hG
  obtain ⟨hx, hb, hml, hown, hts, hK, hN, hM⟩ := id hC
  have hbA : ¬ zAl s b := Nat.not_le.mpr hbl
  refine lv_aload_n hx hb dL_law_295 rfl (lv_at hl 1 rfl) ?_
  refine lv_aload_n hx hb dL_law_296 rfl (lv_at hl 0 rfl) ?_
  refine lv_iload_n hx hb dL_law_297 rfl (lv_at hl 3 rfl) ?_
  refine lv_iconst (v := 1) hx hb dL_law_298 (by decide) ?_
  refine lv_iadd hx hb dL_law_299 ?_
  refine z_top (show nI i + 1 = nI (i + 1) from nI_add i 1) ?_
  refine va_sld hx hb hX hbl hbA hS (vp_in_nI (by omega) (by omega)) dL_law_300 ?_
  refine z_top (z_ld (f := xs) (a := i + 1) (by omega) rfl) ?_
  refine lv_aload_n hx hb dL_law_301 rfl (lv_at hl 0 rfl) ?_
  refine lv_iload_n hx hb dL_law_302 rfl (lv_at hl 3 rfl) ?_
  refine lv_iconst (v := 2) hx hb dL_law_303 (by decide) ?_
  refine lv_iadd hx hb dL_law_304 ?_
  refine z_top (show nI i + 2 = nI (i + 2) from nI_add i 2) ?_
  refine va_sld hx hb hX hbl hbA hS (vp_in_nI (by omega) (by omega)) dL_law_305 ?_
  refine z_top (z_ld (f := xs) (a := i + 2) (by omega) rfl) ?_
  refine zL_X10_about hC hv (by omega) hP hD hS hl.1 ⟨by show cells ≤ 638368; omega, by show slots ≤ 7187145; omega⟩ (fun q hq => List.mem_append_right _ hq) (xs (i + 1)) (xs (i + 2)) ?_
  refine lv_aload_n hx hb dL_law_309 rfl (lv_at hl 2 rfl) ?_
  refine lv_aload_n hx hb dL_law_310 rfl (lv_at hl 0 rfl) ?_
  refine lv_iload_n hx hb dL_law_311 rfl (lv_at hl 3 rfl) ?_
  refine lv_iconst (v := 1) hx hb dL_law_312 (by decide) ?_
  refine lv_iadd hx hb dL_law_313 ?_
  refine z_top (show nI i + 1 = nI (i + 1) from nI_add i 1) ?_
  refine va_sld hx hb hX hbl hbA hS (vp_in_nI (by omega) (by omega)) dL_law_314 ?_
  refine z_top (z_ld (f := xs) (a := i + 1) (by omega) rfl) ?_
  refine lv_aload_n hx hb dL_law_315 rfl (lv_at hl 0 rfl) ?_
  refine lv_iload_n hx hb dL_law_316 rfl (lv_at hl 3 rfl) ?_
  refine lv_iconst (v := 2) hx hb dL_law_317 (by decide) ?_
  refine lv_iadd hx hb dL_law_318 ?_
  refine z_top (show nI i + 2 = nI (i + 2) from nI_add i 2) ?_
  refine va_sld hx hb hX hbl hbA hS (vp_in_nI (by omega) (by omega)) dL_law_319 ?_
  refine z_top (z_ld (f := xs) (a := i + 2) (by omega) rfl) ?_
  refine zL_X11_about hC hv (by omega) (z_swP hP) (z_swD hD) hS hl.1 ⟨by show cells ≤ 638368; omega, by show slots ≤ 7187145; omega⟩ (xs (i + 1)) (xs (i + 2)) _ ?_
  refine lv_icmp_eq (tgt := 840) hx hb dL_law_323 (by decide) (fun _ => ?_) (fun q => absurd rfl q)
  refine W.widen (k := cells + 1) (n := slots + 1) (by omega) (by omega) ?_
  exact K _ H locs ⟨pool, owh, obm, best, b1, b2, b3, b4, u_np, u_nh, u_fond, u_boys, u_learnt, u_stripes, u_qp, u_ql, u_qr, wI, nM, sS, sF, lM, sN, sv, hh, tR, tO, size, codes, lessons, limit, hard, blows, np, nh, fond, boys, learnt, stripes, qp, ql, qr, k_np, k_nh, k_fond, k_boys, k_learnt, k_stripes, k_qp, k_ql, k_qr, hI, pr, osz, path, kd, wt, left, row, kS, iK, zInv_next hv, rfl⟩ hP hD hS

set_option maxHeartbeats 4000000 in
set_option maxRecDepth 100000 in
theorem zCase_as {p : Program} {l : Launch} {e : Env} {s : State} {m : MethodId} {below : List Frame} {meth : Method} {c : Code} {H : Heap} {locs : List Loc} {cells slots : Nat} {Q : State → Prop} {ls : Array Slot} {D : va_G} {cI cB cP : ClassId} {bM b jj L i : Nat} {xs : Nat → Int32} {W0 : va_W} {x : Nat} {x_pg : Nat} {x_tx : Nat} {x_pr : Nat} {x_nw : Nat} {x_kp : Nat} {x_tr : Nat} {x_or : Nat} {x_bl : Nat} {g1 : Nat} {t1 : Nat} {t2 : Nat} {a1 : Nat} {a2 : Nat} {a3 : Nat} {a4 : Nat} {a5 : Nat} {a6 : Nat} {a7 : Nat} {k_a1 : Nat} {k_a2 : Nat} {k_a3 : Nat} {k_a4 : Nat} {k_a5 : Nat} {k_a6 : Nat} {k_a7 : Nat} {u_a1 : Nat} {u_a2 : Nat} {u_a3 : Nat} {u_a4 : Nat} {u_a5 : Nat} {u_a6 : Nat} {u_a7 : Nat} {q1 : Nat} {q2 : Nat} {mo : Nat} {m_hard : Nat} {m_blows : Nat} {m_stripes : Nat} {m_kd : Nat} {m_wt : Nat} {m_boys : Nat} {m_learnt : Nat} {m_fond : Nat} {m_qp : Nat} {m_ql : Nat} {m_qr : Nat} {m_codes : Nat} {m_left : Nat} {m_row : Nat} {m_sv : Nat} {m_k_fond : Nat} {m_k_stripes : Nat} {m_k_learnt : Nat} {m_k_boys : Nat} {m_k_qp : Nat} {m_k_ql : Nat} {m_k_qr : Nat} (hC : zLw p s m c D cI cB cP bM b) (hX : va_X b L xs s s.heap) (hbl : b < s.heap.size) (hL : L ≤ 256) (hi : i + 4 ≤ L) (hjj : jj ≤ 64) (hG : zGw cI cB cP x x_pg x_tx x_pr x_nw x_kp x_tr x_or x_bl g1 t1 t2 a1 a2 a3 a4 a5 a6 a7 k_a1 k_a2 k_a3 k_a4 k_a5 k_a6 k_a7 u_a1 u_a2 u_a3 u_a4 u_a5 u_a6 u_a7 q1 q2 mo m_hard m_blows m_stripes m_kd m_wt m_boys m_learnt m_fond m_qp m_ql m_qr m_codes m_left m_row m_sv m_k_fond m_k_stripes m_k_learnt m_k_boys m_k_qp m_k_ql m_k_qr jj W0) (hP : va_P D vwCl W0 H) (hD : va_D (zAl s) W0) (hS : va_S (zAl s) s.heap H locs) (hl : lv_has ls 4 [(0, .ref b), (1, .ref x), (2, .ref mo), (3, .int (nI i))]) (hc : cells + 1 ≤ 638368 ∧ slots + 1 ≤ 7187145) (K : ∀ (W1 : va_W) (H1 : Heap) (locs1 : List Loc), zGw cI cB cP x x_pg x_tx x_pr x_nw x_kp x_tr x_or x_bl g1 t1 t2 a1 a2 a3 a4 a5 a6 a7 k_a1 k_a2 k_a3 k_a4 k_a5 k_a6 k_a7 u_a1 u_a2 u_a3 u_a4 u_a5 u_a6 u_a7 q1 q2 mo m_hard m_blows m_stripes m_kd m_wt m_boys m_learnt m_fond m_qp m_ql m_qr m_codes m_left m_row m_sv m_k_fond m_k_stripes m_k_learnt m_k_boys m_k_qp m_k_ql m_k_qr (jj + 1) W1 → va_P D vwCl W1 H1 → va_D (zAl s) W1 → va_S (zAl s) s.heap H1 locs1 → W p l e room_1 s m #[Value.ref b] below meth c H1 locs1 (cells + 1) (slots + 1) Q (F0 m 840 ls [])) : W p l e room_1 s m #[Value.ref b] below meth c H locs cells slots Q (F0 m 328 ls []) := by
  obtain ⟨pool, owh, obm, best, b1, b2, b3, b4, u_np, u_nh, u_fond, u_boys, u_learnt, u_stripes, u_qp, u_ql, u_qr, wI, nM, sS, sF, lM, sN, sv, hh, tR, tO, size, codes, lessons, limit, hard, blows, np, nh, fond, boys, learnt, stripes, qp, ql, qr, k_np, k_nh, k_fond, k_boys, k_learnt, k_stripes, k_qp, k_ql, k_qr, hI, pr, osz, path, kd, wt, left, row, kS, iK, hv, rfl⟩ := hG
  obtain ⟨hx, hb, hml, hown, hts, hK, hN, hM⟩ := id hC
  have hbA : ¬ zAl s b := Nat.not_le.mpr hbl
  refine lv_aload_n hx hb dL_law_328 rfl (lv_at hl 1 rfl) ?_
  refine lv_aload_n hx hb dL_law_329 rfl (lv_at hl 0 rfl) ?_
  refine lv_iload_n hx hb dL_law_330 rfl (lv_at hl 3 rfl) ?_
  refine lv_iconst (v := 1) hx hb dL_law_331 (by decide) ?_
  refine lv_iadd hx hb dL_law_332 ?_
  refine z_top (show nI i + 1 = nI (i + 1) from nI_add i 1) ?_
  refine va_sld hx hb hX hbl hbA hS (vp_in_nI (by omega) (by omega)) dL_law_333 ?_
  refine z_top (z_ld (f := xs) (a := i + 1) (by omega) rfl) ?_
  refine lv_aload_n hx hb dL_law_334 rfl (lv_at hl 0 rfl) ?_
  refine lv_iload_n hx hb dL_law_335 rfl (lv_at hl 3 rfl) ?_
  refine lv_iconst (v := 2) hx hb dL_law_336 (by decide) ?_
  refine lv_iadd hx hb dL_law_337 ?_
  refine z_top (show nI i + 2 = nI (i + 2) from nI_add i 2) ?_
  refine va_sld hx hb hX hbl hbA hS (vp_in_nI (by omega) (by omega)) dL_law_338 ?_
  refine z_top (z_ld (f := xs) (a := i + 2) (by omega) rfl) ?_
  refine zL_X10_as hC hv (by omega) hP hD hS hl.1 ⟨by show cells ≤ 638368; omega, by show slots ≤ 7187145; omega⟩ (fun q hq => List.mem_append_right _ hq) (xs (i + 1)) (xs (i + 2)) ?_
  refine lv_aload_n hx hb dL_law_342 rfl (lv_at hl 2 rfl) ?_
  refine lv_aload_n hx hb dL_law_343 rfl (lv_at hl 0 rfl) ?_
  refine lv_iload_n hx hb dL_law_344 rfl (lv_at hl 3 rfl) ?_
  refine lv_iconst (v := 1) hx hb dL_law_345 (by decide) ?_
  refine lv_iadd hx hb dL_law_346 ?_
  refine z_top (show nI i + 1 = nI (i + 1) from nI_add i 1) ?_
  refine va_sld hx hb hX hbl hbA hS (vp_in_nI (by omega) (by omega)) dL_law_347 ?_
  refine z_top (z_ld (f := xs) (a := i + 1) (by omega) rfl) ?_
  refine lv_aload_n hx hb dL_law_348 rfl (lv_at hl 0 rfl) ?_
  refine lv_iload_n hx hb dL_law_349 rfl (lv_at hl 3 rfl) ?_
  refine lv_iconst (v := 2) hx hb dL_law_350 (by decide) ?_
  refine lv_iadd hx hb dL_law_351 ?_
  refine z_top (show nI i + 2 = nI (i + 2) from nI_add i 2) ?_
  refine va_sld hx hb hX hbl hbA hS (vp_in_nI (by omega) (by omega)) dL_law_352 ?_
  refine z_top (z_ld (f := xs) (a := i + 2) (by omega) rfl) ?_
  refine zL_X11_as hC hv (by omega) (z_swP hP) (z_swD hD) hS hl.1 ⟨by show cells ≤ 638368; omega, by show slots ≤ 7187145; omega⟩ (xs (i + 1)) (xs (i + 2)) _ ?_
  refine lv_icmp_eq (tgt := 840) hx hb dL_law_356 (by decide) (fun _ => ?_) (fun q => absurd rfl q)
  refine W.widen (k := cells + 1) (n := slots + 1) (by omega) (by omega) ?_
  exact K _ H locs ⟨pool, owh, obm, best, b1, b2, b3, b4, u_np, u_nh, u_fond, u_boys, u_learnt, u_stripes, u_qp, u_ql, u_qr, wI, nM, sS, sF, lM, sN, sv, hh, tR, tO, size, codes, lessons, limit, hard, blows, np, nh, fond, boys, learnt, stripes, qp, ql, qr, k_np, k_nh, k_fond, k_boys, k_learnt, k_stripes, k_qp, k_ql, k_qr, hI, pr, osz, path, kd, wt, left, row, kS, iK, zInv_next hv, rfl⟩ hP hD hS
