set_option maxHeartbeats 4000000 in
set_option maxRecDepth 100000 in
theorem zCase_letter {p : Program} {l : Launch} {e : Env} {s : State} {m : MethodId} {below : List Frame} {meth : Method} {c : Code} {H : Heap} {locs : List Loc} {cells slots : Nat} {Q : State → Prop} {ls : Array Slot} {D : va_G} {cI cB cP : ClassId} {bM b jj L i : Nat} {xs : Nat → Int32} {W0 : va_W} {x : Nat} {x_pg : Nat} {x_tx : Nat} {x_pr : Nat} {x_nw : Nat} {x_kp : Nat} {x_tr : Nat} {x_or : Nat} {x_bl : Nat} {g1 : Nat} {t1 : Nat} {t2 : Nat} {a1 : Nat} {a2 : Nat} {a3 : Nat} {a4 : Nat} {a5 : Nat} {a6 : Nat} {a7 : Nat} {k_a1 : Nat} {k_a2 : Nat} {k_a3 : Nat} {k_a4 : Nat} {k_a5 : Nat} {k_a6 : Nat} {k_a7 : Nat} {u_a1 : Nat} {u_a2 : Nat} {u_a3 : Nat} {u_a4 : Nat} {u_a5 : Nat} {u_a6 : Nat} {u_a7 : Nat} {q1 : Nat} {q2 : Nat} {mo : Nat} {m_hard : Nat} {m_blows : Nat} {m_stripes : Nat} {m_kd : Nat} {m_wt : Nat} {m_boys : Nat} {m_learnt : Nat} {m_fond : Nat} {m_qp : Nat} {m_ql : Nat} {m_qr : Nat} {m_codes : Nat} {m_left : Nat} {m_row : Nat} {m_sv : Nat} {m_k_fond : Nat} {m_k_stripes : Nat} {m_k_learnt : Nat} {m_k_boys : Nat} {m_k_qp : Nat} {m_k_ql : Nat} {m_k_qr : Nat} (hC : zLw p s m c D cI cB cP bM b) (hX : va_X b L xs s s.heap) (hbl : b < s.heap.size) (hL : L ≤ 256) (hi : i + 4 ≤ L) (hjj : jj ≤ 64) (hG : zGw cI cB cP x x_pg x_tx x_pr x_nw x_kp x_tr x_or x_bl g1 t1 t2 a1 a2 a3 a4 a5 a6 a7 k_a1 k_a2 k_a3 k_a4 k_a5 k_a6 k_a7 u_a1 u_a2 u_a3 u_a4 u_a5 u_a6 u_a7 q1 q2 mo m_hard m_blows m_stripes m_kd m_wt m_boys m_learnt m_fond m_qp m_ql m_qr m_codes m_left m_row m_sv m_k_fond m_k_stripes m_k_learnt m_k_boys m_k_qp m_k_ql m_k_qr jj W0) (hP : va_P D vwCl W0 H) (hD : va_D (zAl s) W0) (hS : va_S (zAl s) s.heap H locs) (hl : lv_has ls 4 [(0, .ref b), (1, .ref x), (2, .ref mo), (3, .int (nI i))]) (hc : cells + 1 ≤ 638368 ∧ slots + 1 ≤ 7187145) (K : ∀ (W1 : va_W) (H1 : Heap) (locs1 : List Loc), zGw cI cB cP x x_pg x_tx x_pr x_nw x_kp x_tr x_or x_bl g1 t1 t2 a1 a2 a3 a4 a5 a6 a7 k_a1 k_a2 k_a3 k_a4 k_a5 k_a6 k_a7 u_a1 u_a2 u_a3 u_a4 u_a5 u_a6 u_a7 q1 q2 mo m_hard m_blows m_stripes m_kd m_wt m_boys m_learnt m_fond m_qp m_ql m_qr m_codes m_left m_row m_sv m_k_fond m_k_stripes m_k_learnt m_k_boys m_k_qp m_k_ql m_k_qr (jj + 1) W1 → va_P D vwCl W1 H1 → va_D (zAl s) W1 → va_S (zAl s) s.heap H1 locs1 → W p l e room_1 s m #[Value.ref b] below meth c H1 locs1 (cells + 1) (slots + 1) Q (F0 m 840 ls [])) : W p l e room_1 s m #[Value.ref b] below meth c H locs cells slots Q (F0 m 144 ls []) := by
  obtain ⟨pool, owh, obm, best, b1, b2, b3, b4, u_np, u_nh, u_fond, u_boys, u_learnt, u_stripes, u_qp, u_ql, u_qr, wI, nM, sS, sF, lM, sN, sv, hh, tR, tO, size, codes, lessons, limit, hard, blows, np, nh, fond, boys, learnt, stripes, qp, ql, qr, k_np, k_nh, k_fond, k_boys, k_learnt, k_stripes, k_qp, k_ql, k_qr, hI, pr, osz, path, kd, wt, left, row, kS, iK, hv, rfl⟩ := hG
  obtain ⟨hx, hb, hml, hown, hts, hK, hN, hM⟩ := id hC
  have hbA : ¬ zAl s b := Nat.not_le.mpr hbl
  refine lv_aload_n hx hb dL_law_144 rfl (lv_at hl 1 rfl) ?_
  refine lv_aload_n hx hb dL_law_145 rfl (lv_at hl 0 rfl) ?_
  refine lv_iload_n hx hb dL_law_146 rfl (lv_at hl 3 rfl) ?_
  refine lv_iconst (v := 1) hx hb dL_law_147 (by decide) ?_
  refine lv_iadd hx hb dL_law_148 ?_
  refine z_top (show nI i + 1 = nI (i + 1) from nI_add i 1) ?_
  refine va_sld hx hb hX hbl hbA hS (vp_in_nI (by omega) (by omega)) dL_law_149 ?_
  refine z_top (z_ld (f := xs) (a := i + 1) (by omega) rfl) ?_
  refine zL_X10_letter hC hv (by omega) hP hD hS hl.1 ⟨by show cells ≤ 638368; omega, by show slots ≤ 7187145; omega⟩ (xs (i + 1)) (fun  H locs  hP hD hS => ?_)
  refine lv_aload_n hx hb dL_law_153 rfl (lv_at hl 2 rfl) ?_
  refine lv_aload_n hx hb dL_law_154 rfl (lv_at hl 0 rfl) ?_
  refine lv_iload_n hx hb dL_law_155 rfl (lv_at hl 3 rfl) ?_
  refine lv_iconst (v := 1) hx hb dL_law_156 (by decide) ?_
  refine lv_iadd hx hb dL_law_157 ?_
  refine z_top (show nI i + 1 = nI (i + 1) from nI_add i 1) ?_
  refine va_sld hx hb hX hbl hbA hS (vp_in_nI (by omega) (by omega)) dL_law_158 ?_
  refine z_top (z_ld (f := xs) (a := i + 1) (by omega) rfl) ?_
  refine zL_X11_letter hC hv (by omega) (z_swP hP) (z_swD hD) hS hl.1 ⟨by show cells ≤ 638368; omega, by show slots ≤ 7187145; omega⟩ (xs (i + 1)) _ (fun  H locs  hP hD hS => ?_)
  have hP := z_swP hP
  have hD := z_swD hD
  refine lv_icmp_eq (tgt := 840) hx hb dL_law_162 (by decide) (fun _ => ?_) (fun q => absurd rfl q)
  refine W.widen (k := cells + 1) (n := slots + 1) (by omega) (by omega) ?_
  exact K _ H locs ⟨pool, owh, obm, best, b1, b2, b3, b4, u_np, u_nh, u_fond, u_boys, u_learnt, u_stripes, u_qp, u_ql, u_qr, wI, nM, sS, sF, lM, sN, sv, hh, tR, tO, zLetS size (xs (i + 1)), zLetC codes size (xs (i + 1)), lessons, limit, hard, blows, np, nh, fond, boys, learnt, stripes, qp, ql, qr, k_np, k_nh, k_fond, k_boys, k_learnt, k_stripes, k_qp, k_ql, k_qr, hI, pr, osz, path, kd, wt, left, row, kS, iK, zI_letter hv (xs (i + 1)), rfl⟩ hP hD hS

set_option maxHeartbeats 4000000 in
set_option maxRecDepth 100000 in
theorem zCase_blank {p : Program} {l : Launch} {e : Env} {s : State} {m : MethodId} {below : List Frame} {meth : Method} {c : Code} {H : Heap} {locs : List Loc} {cells slots : Nat} {Q : State → Prop} {ls : Array Slot} {D : va_G} {cI cB cP : ClassId} {bM b jj L i : Nat} {xs : Nat → Int32} {W0 : va_W} {x : Nat} {x_pg : Nat} {x_tx : Nat} {x_pr : Nat} {x_nw : Nat} {x_kp : Nat} {x_tr : Nat} {x_or : Nat} {x_bl : Nat} {g1 : Nat} {t1 : Nat} {t2 : Nat} {a1 : Nat} {a2 : Nat} {a3 : Nat} {a4 : Nat} {a5 : Nat} {a6 : Nat} {a7 : Nat} {k_a1 : Nat} {k_a2 : Nat} {k_a3 : Nat} {k_a4 : Nat} {k_a5 : Nat} {k_a6 : Nat} {k_a7 : Nat} {u_a1 : Nat} {u_a2 : Nat} {u_a3 : Nat} {u_a4 : Nat} {u_a5 : Nat} {u_a6 : Nat} {u_a7 : Nat} {q1 : Nat} {q2 : Nat} {mo : Nat} {m_hard : Nat} {m_blows : Nat} {m_stripes : Nat} {m_kd : Nat} {m_wt : Nat} {m_boys : Nat} {m_learnt : Nat} {m_fond : Nat} {m_qp : Nat} {m_ql : Nat} {m_qr : Nat} {m_codes : Nat} {m_left : Nat} {m_row : Nat} {m_sv : Nat} {m_k_fond : Nat} {m_k_stripes : Nat} {m_k_learnt : Nat} {m_k_boys : Nat} {m_k_qp : Nat} {m_k_ql : Nat} {m_k_qr : Nat} (hC : zLw p s m c D cI cB cP bM b) (hX : va_X b L xs s s.heap) (hbl : b < s.heap.size) (hL : L ≤ 256) (hi : i + 4 ≤ L) (hjj : jj ≤ 64) (hG : zGw cI cB cP x x_pg x_tx x_pr x_nw x_kp x_tr x_or x_bl g1 t1 t2 a1 a2 a3 a4 a5 a6 a7 k_a1 k_a2 k_a3 k_a4 k_a5 k_a6 k_a7 u_a1 u_a2 u_a3 u_a4 u_a5 u_a6 u_a7 q1 q2 mo m_hard m_blows m_stripes m_kd m_wt m_boys m_learnt m_fond m_qp m_ql m_qr m_codes m_left m_row m_sv m_k_fond m_k_stripes m_k_learnt m_k_boys m_k_qp m_k_ql m_k_qr jj W0) (hP : va_P D vwCl W0 H) (hD : va_D (zAl s) W0) (hS : va_S (zAl s) s.heap H locs) (hl : lv_has ls 4 [(0, .ref b), (1, .ref x), (2, .ref mo), (3, .int (nI i))]) (hc : cells + 1 ≤ 638368 ∧ slots + 1 ≤ 7187145) (K : ∀ (W1 : va_W) (H1 : Heap) (locs1 : List Loc), zGw cI cB cP x x_pg x_tx x_pr x_nw x_kp x_tr x_or x_bl g1 t1 t2 a1 a2 a3 a4 a5 a6 a7 k_a1 k_a2 k_a3 k_a4 k_a5 k_a6 k_a7 u_a1 u_a2 u_a3 u_a4 u_a5 u_a6 u_a7 q1 q2 mo m_hard m_blows m_stripes m_kd m_wt m_boys m_learnt m_fond m_qp m_ql m_qr m_codes m_left m_row m_sv m_k_fond m_k_stripes m_k_learnt m_k_boys m_k_qp m_k_ql m_k_qr (jj + 1) W1 → va_P D vwCl W1 H1 → va_D (zAl s) W1 → va_S (zAl s) s.heap H1 locs1 → W p l e room_1 s m #[Value.ref b] below meth c H1 locs1 (cells + 1) (slots + 1) Q (F0 m 840 ls [])) : W p l e room_1 s m #[Value.ref b] below meth c H locs cells slots Q (F0 m 167 ls []) := by
  obtain ⟨pool, owh, obm, best, b1, b2, b3, b4, u_np, u_nh, u_fond, u_boys, u_learnt, u_stripes, u_qp, u_ql, u_qr, wI, nM, sS, sF, lM, sN, sv, hh, tR, tO, size, codes, lessons, limit, hard, blows, np, nh, fond, boys, learnt, stripes, qp, ql, qr, k_np, k_nh, k_fond, k_boys, k_learnt, k_stripes, k_qp, k_ql, k_qr, hI, pr, osz, path, kd, wt, left, row, kS, iK, hv, rfl⟩ := hG
  obtain ⟨hx, hb, hml, hown, hts, hK, hN, hM⟩ := id hC
  have hbA : ¬ zAl s b := Nat.not_le.mpr hbl
  refine lv_aload_n hx hb dL_law_167 rfl (lv_at hl 1 rfl) ?_
  refine zL_X10_blank hC hv (by omega) hP hD hS hl.1 ⟨by show cells ≤ 638368; omega, by show slots ≤ 7187145; omega⟩ (fun  H locs  hP hD hS => ?_)
  refine lv_aload_n hx hb dL_law_171 rfl (lv_at hl 2 rfl) ?_
  refine zL_X11_blank hC hv (by omega) (z_swP hP) (z_swD hD) hS hl.1 ⟨by show cells ≤ 638368; omega, by show slots ≤ 7187145; omega⟩ _ (fun  H locs  hP hD hS => ?_)
  have hP := z_swP hP
  have hD := z_swD hD
  refine lv_icmp_eq (tgt := 840) hx hb dL_law_175 (by decide) (fun _ => ?_) (fun q => absurd rfl q)
  refine W.widen (k := cells + 1) (n := slots + 1) (by omega) (by omega) ?_
  exact K _ H locs ⟨pool, owh, obm, best, b1, b2, b3, b4, u_np, u_nh, u_fond, u_boys, u_learnt, u_stripes, u_qp, u_ql, u_qr, wI, nM, sS, sF, lM, sN, sv, hh, tR, tO, 0, codes, lessons, limit, hard, blows, np, nh, fond, boys, learnt, stripes, qp, ql, qr, k_np, k_nh, k_fond, k_boys, k_learnt, k_stripes, k_qp, k_ql, k_qr, hI, pr, osz, path, kd, wt, left, row, kS, iK, zI_blank hv, rfl⟩ hP hD hS

set_option maxHeartbeats 4000000 in
set_option maxRecDepth 100000 in
theorem zCase_fault {p : Program} {l : Launch} {e : Env} {s : State} {m : MethodId} {below : List Frame} {meth : Method} {c : Code} {H : Heap} {locs : List Loc} {cells slots : Nat} {Q : State → Prop} {ls : Array Slot} {D : va_G} {cI cB cP : ClassId} {bM b jj L i : Nat} {xs : Nat → Int32} {W0 : va_W} {x : Nat} {x_pg : Nat} {x_tx : Nat} {x_pr : Nat} {x_nw : Nat} {x_kp : Nat} {x_tr : Nat} {x_or : Nat} {x_bl : Nat} {g1 : Nat} {t1 : Nat} {t2 : Nat} {a1 : Nat} {a2 : Nat} {a3 : Nat} {a4 : Nat} {a5 : Nat} {a6 : Nat} {a7 : Nat} {k_a1 : Nat} {k_a2 : Nat} {k_a3 : Nat} {k_a4 : Nat} {k_a5 : Nat} {k_a6 : Nat} {k_a7 : Nat} {u_a1 : Nat} {u_a2 : Nat} {u_a3 : Nat} {u_a4 : Nat} {u_a5 : Nat} {u_a6 : Nat} {u_a7 : Nat} {q1 : Nat} {q2 : Nat} {mo : Nat} {m_hard : Nat} {m_blows : Nat} {m_stripes : Nat} {m_kd : Nat} {m_wt : Nat} {m_boys : Nat} {m_learnt : Nat} {m_fond : Nat} {m_qp : Nat} {m_ql : Nat} {m_qr : Nat} {m_codes : Nat} {m_left : Nat} {m_row : Nat} {m_sv : Nat} {m_k_fond : Nat} {m_k_stripes : Nat} {m_k_learnt : Nat} {m_k_boys : Nat} {m_k_qp : Nat} {m_k_ql : Nat} {m_k_qr : Nat} (hC : zLw p s m c D cI cB cP bM b) (hX : va_X b L xs s s.heap) (hbl : b < s.heap.size) (hL : L ≤ 256) (hi : i + 4 ≤ L) (hjj : jj ≤ 64) (hG : zGw cI cB cP x x_pg x_tx x_pr x_nw x_kp x_tr x_or x_bl g1 t1 t2 a1 a2 a3 a4 a5 a6 a7 k_a1 k_a2 k_a3 k_a4 k_a5 k_a6 k_a7 u_a1 u_a2 u_a3 u_a4 u_a5 u_a6 u_a7 q1 q2 mo m_hard m_blows m_stripes m_kd m_wt m_boys m_learnt m_fond m_qp m_ql m_qr m_codes m_left m_row m_sv m_k_fond m_k_stripes m_k_learnt m_k_boys m_k_qp m_k_ql m_k_qr jj W0) (hP : va_P D vwCl W0 H) (hD : va_D (zAl s) W0) (hS : va_S (zAl s) s.heap H locs) (hl : lv_has ls 4 [(0, .ref b), (1, .ref x), (2, .ref mo), (3, .int (nI i))]) (hc : cells + 1 ≤ 638368 ∧ slots + 1 ≤ 7187145) (K : ∀ (W1 : va_W) (H1 : Heap) (locs1 : List Loc), zGw cI cB cP x x_pg x_tx x_pr x_nw x_kp x_tr x_or x_bl g1 t1 t2 a1 a2 a3 a4 a5 a6 a7 k_a1 k_a2 k_a3 k_a4 k_a5 k_a6 k_a7 u_a1 u_a2 u_a3 u_a4 u_a5 u_a6 u_a7 q1 q2 mo m_hard m_blows m_stripes m_kd m_wt m_boys m_learnt m_fond m_qp m_ql m_qr m_codes m_left m_row m_sv m_k_fond m_k_stripes m_k_learnt m_k_boys m_k_qp m_k_ql m_k_qr (jj + 1) W1 → va_P D vwCl W1 H1 → va_D (zAl s) W1 → va_S (zAl s) s.heap H1 locs1 → W p l e room_1 s m #[Value.ref b] below meth c H1 locs1 (cells + 1) (slots + 1) Q (F0 m 840 ls [])) : W p l e room_1 s m #[Value.ref b] below meth c H locs cells slots Q (F0 m 180 ls []) := by
  obtain ⟨pool, owh, obm, best, b1, b2, b3, b4, u_np, u_nh, u_fond, u_boys, u_learnt, u_stripes, u_qp, u_ql, u_qr, wI, nM, sS, sF, lM, sN, sv, hh, tR, tO, size, codes, lessons, limit, hard, blows, np, nh, fond, boys, learnt, stripes, qp, ql, qr, k_np, k_nh, k_fond, k_boys, k_learnt, k_stripes, k_qp, k_ql, k_qr, hI, pr, osz, path, kd, wt, left, row, kS, iK, hv, rfl⟩ := hG
  obtain ⟨hx, hb, hml, hown, hts, hK, hN, hM⟩ := id hC
  have hbA : ¬ zAl s b := Nat.not_le.mpr hbl
  refine lv_aload_n hx hb dL_law_180 rfl (lv_at hl 1 rfl) ?_
  refine zL_X10_fault hC hv (by omega) hP hD hS hl.1 ⟨by show cells ≤ 638368; omega, by show slots ≤ 7187145; omega⟩ ?_
  refine lv_aload_n hx hb dL_law_184 rfl (lv_at hl 2 rfl) ?_
  refine zL_X11_fault hC hv (by omega) (z_swP hP) (z_swD hD) hS hl.1 ⟨by show cells ≤ 638368; omega, by show slots ≤ 7187145; omega⟩ _ (fun z_u_wI z_u_nM H locs  hP hD hS => ?_)
  have hP := z_swP hP
  have hD := z_swD hD
  refine lv_icmp_eq (tgt := 840) hx hb dL_law_188 (by decide) (fun _ => ?_) (fun q => absurd rfl q)
  refine W.widen (k := cells + 1) (n := slots + 1) (by omega) (by omega) ?_
  exact K _ H locs ⟨pool, owh, obm, best, b1, b2, b3, b4, u_np, u_nh, u_fond, u_boys, u_learnt, u_stripes, u_qp, u_ql, u_qr, z_u_wI, z_u_nM, sS, sF, lM, sN, sv, hh, tR, tO, size, codes, lessons, limit, hard, blows, np, nh, fond, boys, learnt, stripes, qp, ql, qr, k_np, k_nh, k_fond, k_boys, k_learnt, k_stripes, k_qp, k_ql, k_qr, hI, pr, osz, path, kd, wt, left, row, kS, iK, zInv_next hv, rfl⟩ hP hD hS

set_option maxHeartbeats 4000000 in
set_option maxRecDepth 100000 in
theorem zCase_school {p : Program} {l : Launch} {e : Env} {s : State} {m : MethodId} {below : List Frame} {meth : Method} {c : Code} {H : Heap} {locs : List Loc} {cells slots : Nat} {Q : State → Prop} {ls : Array Slot} {D : va_G} {cI cB cP : ClassId} {bM b jj L i : Nat} {xs : Nat → Int32} {W0 : va_W} {x : Nat} {x_pg : Nat} {x_tx : Nat} {x_pr : Nat} {x_nw : Nat} {x_kp : Nat} {x_tr : Nat} {x_or : Nat} {x_bl : Nat} {g1 : Nat} {t1 : Nat} {t2 : Nat} {a1 : Nat} {a2 : Nat} {a3 : Nat} {a4 : Nat} {a5 : Nat} {a6 : Nat} {a7 : Nat} {k_a1 : Nat} {k_a2 : Nat} {k_a3 : Nat} {k_a4 : Nat} {k_a5 : Nat} {k_a6 : Nat} {k_a7 : Nat} {u_a1 : Nat} {u_a2 : Nat} {u_a3 : Nat} {u_a4 : Nat} {u_a5 : Nat} {u_a6 : Nat} {u_a7 : Nat} {q1 : Nat} {q2 : Nat} {mo : Nat} {m_hard : Nat} {m_blows : Nat} {m_stripes : Nat} {m_kd : Nat} {m_wt : Nat} {m_boys : Nat} {m_learnt : Nat} {m_fond : Nat} {m_qp : Nat} {m_ql : Nat} {m_qr : Nat} {m_codes : Nat} {m_left : Nat} {m_row : Nat} {m_sv : Nat} {m_k_fond : Nat} {m_k_stripes : Nat} {m_k_learnt : Nat} {m_k_boys : Nat} {m_k_qp : Nat} {m_k_ql : Nat} {m_k_qr : Nat} (hC : zLw p s m c D cI cB cP bM b) (hX : va_X b L xs s s.heap) (hbl : b < s.heap.size) (hL : L ≤ 256) (hi : i + 4 ≤ L) (hjj : jj ≤ 64) (hG : zGw cI cB cP x x_pg x_tx x_pr x_nw x_kp x_tr x_or x_bl g1 t1 t2 a1 a2 a3 a4 a5 a6 a7 k_a1 k_a2 k_a3 k_a4 k_a5 k_a6 k_a7 u_a1 u_a2 u_a3 u_a4 u_a5 u_a6 u_a7 q1 q2 mo m_hard m_blows m_stripes m_kd m_wt m_boys m_learnt m_fond m_qp m_ql m_qr m_codes m_left m_row m_sv m_k_fond m_k_stripes m_k_learnt m_k_boys m_k_qp m_k_ql m_k_qr jj W0) (hP : va_P D vwCl W0 H) (hD : va_D (zAl s) W0) (hS : va_S (zAl s) s.heap H locs) (hl : lv_has ls 4 [(0, .ref b), (1, .ref x), (2, .ref mo), (3, .int (nI i))]) (hc : cells + 1 ≤ 638368 ∧ slots + 1 ≤ 7187145) (K : ∀ (W1 : va_W) (H1 : Heap) (locs1 : List Loc), zGw cI cB cP x x_pg x_tx x_pr x_nw x_kp x_tr x_or x_bl g1 t1 t2 a1 a2 a3 a4 a5 a6 a7 k_a1 k_a2 k_a3 k_a4 k_a5 k_a6 k_a7 u_a1 u_a2 u_a3 u_a4 u_a5 u_a6 u_a7 q1 q2 mo m_hard m_blows m_stripes m_kd m_wt m_boys m_learnt m_fond m_qp m_ql m_qr m_codes m_left m_row m_sv m_k_fond m_k_stripes m_k_learnt m_k_boys m_k_qp m_k_ql m_k_qr (jj + 1) W1 → va_P D vwCl W1 H1 → va_D (zAl s) W1 → va_S (zAl s) s.heap H1 locs1 → W p l e room_1 s m #[Value.ref b] below meth c H1 locs1 (cells + 1) (slots + 1) Q (F0 m 840 ls [])) : W p l e room_1 s m #[Value.ref b] below meth c H locs cells slots Q (F0 m 193 ls []) := by
  obtain ⟨pool, owh, obm, best, b1, b2, b3, b4, u_np, u_nh, u_fond, u_boys, u_learnt, u_stripes, u_qp, u_ql, u_qr, wI, nM, sS, sF, lM, sN, sv, hh, tR, tO, size, codes, lessons, limit, hard, blows, np, nh, fond, boys, learnt, stripes, qp, ql, qr, k_np, k_nh, k_fond, k_boys, k_learnt, k_stripes, k_qp, k_ql, k_qr, hI, pr, osz, path, kd, wt, left, row, kS, iK, hv, rfl⟩ := hG
  obtain ⟨hx, hb, hml, hown, hts, hK, hN, hM⟩ := id hC
  have hbA : ¬ zAl s b := Nat.not_le.mpr hbl
  refine lv_aload_n hx hb dL_law_193 rfl (lv_at hl 1 rfl) ?_
  refine zL_X10_school hC hv (by omega) hP hD hS hl.1 ⟨by show cells ≤ 638368; omega, by show slots ≤ 7187145; omega⟩ (fun  H locs  hP hD hS => ?_)
  refine lv_aload_n hx hb dL_law_197 rfl (lv_at hl 2 rfl) ?_
  refine zL_X11_school hC hv (by omega) (z_swP hP) (z_swD hD) hS hl.1 ⟨by show cells ≤ 638368; omega, by show slots ≤ 7187145; omega⟩ _ (fun z_u_wI z_u_nM H locs  hP hD hS => ?_)
  have hP := z_swP hP
  have hD := z_swD hD
  refine lv_icmp_eq (tgt := 840) hx hb dL_law_201 (by decide) (fun _ => ?_) (fun q => absurd rfl q)
  refine W.widen (k := cells + 1) (n := slots + 1) (by omega) (by omega) ?_
  exact K _ H locs ⟨pool, owh, obm, best, b1, b2, b3, b4, u_np, u_nh, u_fond, u_boys, u_learnt, u_stripes, u_qp, u_ql, u_qr, z_u_wI, z_u_nM, sS, sF, lM, sN, sv, hh, if zWholeB codes size = true then tR + 1 else tR, tO, if zWholeB codes size = true then 0 else size, codes, if zWholeB codes size = true then size / 3 else lessons, if zWholeB codes size = true then codes (size - 1) - 48 else limit, if zWholeB codes size = true then zMix (size / 3) (fun q_ => codes (3 * q_) - 48) hard else hard, if zWholeB codes size = true then zMix (size / 3) (fun q_ => codes (3 * q_ + 1) - 48) blows else blows, if zWholeB codes size = true then 0 else np, if zWholeB codes size = true then 0 else nh, fond, boys, learnt, if zWholeB codes size = true then (fun _ => 0) else stripes, qp, ql, qr, k_np, k_nh, k_fond, k_boys, k_learnt, k_stripes, k_qp, k_ql, k_qr, if zWholeB codes size = true then 0 else hI, pr, osz, path, kd, wt, left, row, kS, iK, zI_school hv, rfl⟩ hP hD hS

set_option maxHeartbeats 4000000 in
set_option maxRecDepth 100000 in
theorem zCase_lesson {p : Program} {l : Launch} {e : Env} {s : State} {m : MethodId} {below : List Frame} {meth : Method} {c : Code} {H : Heap} {locs : List Loc} {cells slots : Nat} {Q : State → Prop} {ls : Array Slot} {D : va_G} {cI cB cP : ClassId} {bM b jj L i : Nat} {xs : Nat → Int32} {W0 : va_W} {x : Nat} {x_pg : Nat} {x_tx : Nat} {x_pr : Nat} {x_nw : Nat} {x_kp : Nat} {x_tr : Nat} {x_or : Nat} {x_bl : Nat} {g1 : Nat} {t1 : Nat} {t2 : Nat} {a1 : Nat} {a2 : Nat} {a3 : Nat} {a4 : Nat} {a5 : Nat} {a6 : Nat} {a7 : Nat} {k_a1 : Nat} {k_a2 : Nat} {k_a3 : Nat} {k_a4 : Nat} {k_a5 : Nat} {k_a6 : Nat} {k_a7 : Nat} {u_a1 : Nat} {u_a2 : Nat} {u_a3 : Nat} {u_a4 : Nat} {u_a5 : Nat} {u_a6 : Nat} {u_a7 : Nat} {q1 : Nat} {q2 : Nat} {mo : Nat} {m_hard : Nat} {m_blows : Nat} {m_stripes : Nat} {m_kd : Nat} {m_wt : Nat} {m_boys : Nat} {m_learnt : Nat} {m_fond : Nat} {m_qp : Nat} {m_ql : Nat} {m_qr : Nat} {m_codes : Nat} {m_left : Nat} {m_row : Nat} {m_sv : Nat} {m_k_fond : Nat} {m_k_stripes : Nat} {m_k_learnt : Nat} {m_k_boys : Nat} {m_k_qp : Nat} {m_k_ql : Nat} {m_k_qr : Nat} (hC : zLw p s m c D cI cB cP bM b) (hX : va_X b L xs s s.heap) (hbl : b < s.heap.size) (hL : L ≤ 256) (hi : i + 4 ≤ L) (hjj : jj ≤ 64) (hG : zGw cI cB cP x x_pg x_tx x_pr x_nw x_kp x_tr x_or x_bl g1 t1 t2 a1 a2 a3 a4 a5 a6 a7 k_a1 k_a2 k_a3 k_a4 k_a5 k_a6 k_a7 u_a1 u_a2 u_a3 u_a4 u_a5 u_a6 u_a7 q1 q2 mo m_hard m_blows m_stripes m_kd m_wt m_boys m_learnt m_fond m_qp m_ql m_qr m_codes m_left m_row m_sv m_k_fond m_k_stripes m_k_learnt m_k_boys m_k_qp m_k_ql m_k_qr jj W0) (hP : va_P D vwCl W0 H) (hD : va_D (zAl s) W0) (hS : va_S (zAl s) s.heap H locs) (hl : lv_has ls 4 [(0, .ref b), (1, .ref x), (2, .ref mo), (3, .int (nI i))]) (hc : cells + 1 ≤ 638368 ∧ slots + 1 ≤ 7187145) (K : ∀ (W1 : va_W) (H1 : Heap) (locs1 : List Loc), zGw cI cB cP x x_pg x_tx x_pr x_nw x_kp x_tr x_or x_bl g1 t1 t2 a1 a2 a3 a4 a5 a6 a7 k_a1 k_a2 k_a3 k_a4 k_a5 k_a6 k_a7 u_a1 u_a2 u_a3 u_a4 u_a5 u_a6 u_a7 q1 q2 mo m_hard m_blows m_stripes m_kd m_wt m_boys m_learnt m_fond m_qp m_ql m_qr m_codes m_left m_row m_sv m_k_fond m_k_stripes m_k_learnt m_k_boys m_k_qp m_k_ql m_k_qr (jj + 1) W1 → va_P D vwCl W1 H1 → va_D (zAl s) W1 → va_S (zAl s) s.heap H1 locs1 → W p l e room_1 s m #[Value.ref b] below meth c H1 locs1 (cells + 1) (slots + 1) Q (F0 m 840 ls [])) : W p l e room_1 s m #[Value.ref b] below meth c H locs cells slots Q (F0 m 206 ls []) := by
  obtain ⟨pool, owh, obm, best, b1, b2, b3, b4, u_np, u_nh, u_fond, u_boys, u_learnt, u_stripes, u_qp, u_ql, u_qr, wI, nM, sS, sF, lM, sN, sv, hh, tR, tO, size, codes, lessons, limit, hard, blows, np, nh, fond, boys, learnt, stripes, qp, ql, qr, k_np, k_nh, k_fond, k_boys, k_learnt, k_stripes, k_qp, k_ql, k_qr, hI, pr, osz, path, kd, wt, left, row, kS, iK, hv, rfl⟩ := hG
  obtain ⟨hx, hb, hml, hown, hts, hK, hN, hM⟩ := id hC
  have hbA : ¬ zAl s b := Nat.not_le.mpr hbl
  refine lv_aload_n hx hb dL_law_206 rfl (lv_at hl 1 rfl) ?_
  refine lv_aload_n hx hb dL_law_207 rfl (lv_at hl 0 rfl) ?_
  refine lv_iload_n hx hb dL_law_208 rfl (lv_at hl 3 rfl) ?_
  refine lv_iconst (v := 1) hx hb dL_law_209 (by decide) ?_
  refine lv_iadd hx hb dL_law_210 ?_
  refine z_top (show nI i + 1 = nI (i + 1) from nI_add i 1) ?_
  refine va_sld hx hb hX hbl hbA hS (vp_in_nI (by omega) (by omega)) dL_law_211 ?_
  refine z_top (z_ld (f := xs) (a := i + 1) (by omega) rfl) ?_
  refine lv_aload_n hx hb dL_law_212 rfl (lv_at hl 0 rfl) ?_
  refine lv_iload_n hx hb dL_law_213 rfl (lv_at hl 3 rfl) ?_
  refine lv_iconst (v := 2) hx hb dL_law_214 (by decide) ?_
  refine lv_iadd hx hb dL_law_215 ?_
  refine z_top (show nI i + 2 = nI (i + 2) from nI_add i 2) ?_
  refine va_sld hx hb hX hbl hbA hS (vp_in_nI (by omega) (by omega)) dL_law_216 ?_
  refine z_top (z_ld (f := xs) (a := i + 2) (by omega) rfl) ?_
  refine zL_X10_lesson hC hv (by omega) hP hD hS hl.1 ⟨by show cells ≤ 638368; omega, by show slots ≤ 7187145; omega⟩ (xs (i + 1)) (xs (i + 2)) ?_
  refine lv_aload_n hx hb dL_law_220 rfl (lv_at hl 2 rfl) ?_
  refine lv_aload_n hx hb dL_law_221 rfl (lv_at hl 0 rfl) ?_
  refine lv_iload_n hx hb dL_law_222 rfl (lv_at hl 3 rfl) ?_
  refine lv_iconst (v := 1) hx hb dL_law_223 (by decide) ?_
  refine lv_iadd hx hb dL_law_224 ?_
  refine z_top (show nI i + 1 = nI (i + 1) from nI_add i 1) ?_
  refine va_sld hx hb hX hbl hbA hS (vp_in_nI (by omega) (by omega)) dL_law_225 ?_
  refine z_top (z_ld (f := xs) (a := i + 1) (by omega) rfl) ?_
  refine lv_aload_n hx hb dL_law_226 rfl (lv_at hl 0 rfl) ?_
  refine lv_iload_n hx hb dL_law_227 rfl (lv_at hl 3 rfl) ?_
  refine lv_iconst (v := 2) hx hb dL_law_228 (by decide) ?_
  refine lv_iadd hx hb dL_law_229 ?_
  refine z_top (show nI i + 2 = nI (i + 2) from nI_add i 2) ?_
  refine va_sld hx hb hX hbl hbA hS (vp_in_nI (by omega) (by omega)) dL_law_230 ?_
  refine z_top (z_ld (f := xs) (a := i + 2) (by omega) rfl) ?_
  refine zL_X11_lesson hC hv (by omega) (z_swP hP) (z_swD hD) hS hl.1 ⟨by show cells ≤ 638368; omega, by show slots ≤ 7187145; omega⟩ (xs (i + 1)) (xs (i + 2)) _ ?_
  refine lv_icmp_eq (tgt := 840) hx hb dL_law_234 (by decide) (fun _ => ?_) (fun q => absurd rfl q)
  refine W.widen (k := cells + 1) (n := slots + 1) (by omega) (by omega) ?_
  exact K _ H locs ⟨pool, owh, obm, best, b1, b2, b3, b4, u_np, u_nh, u_fond, u_boys, u_learnt, u_stripes, u_qp, u_ql, u_qr, wI, nM, sS, sF, lM, sN, sv, hh, tR, tO, size, codes, lessons, limit, hard, blows, np, nh, fond, boys, learnt, stripes, qp, ql, qr, k_np, k_nh, k_fond, k_boys, k_learnt, k_stripes, k_qp, k_ql, k_qr, hI, pr, osz, path, kd, wt, left, row, kS, iK, zInv_next hv, rfl⟩ hP hD hS

set_option maxHeartbeats 4000000 in
set_option maxRecDepth 100000 in
theorem zCase_stripes {p : Program} {l : Launch} {e : Env} {s : State} {m : MethodId} {below : List Frame} {meth : Method} {c : Code} {H : Heap} {locs : List Loc} {cells slots : Nat} {Q : State → Prop} {ls : Array Slot} {D : va_G} {cI cB cP : ClassId} {bM b jj L i : Nat} {xs : Nat → Int32} {W0 : va_W} {x : Nat} {x_pg : Nat} {x_tx : Nat} {x_pr : Nat} {x_nw : Nat} {x_kp : Nat} {x_tr : Nat} {x_or : Nat} {x_bl : Nat} {g1 : Nat} {t1 : Nat} {t2 : Nat} {a1 : Nat} {a2 : Nat} {a3 : Nat} {a4 : Nat} {a5 : Nat} {a6 : Nat} {a7 : Nat} {k_a1 : Nat} {k_a2 : Nat} {k_a3 : Nat} {k_a4 : Nat} {k_a5 : Nat} {k_a6 : Nat} {k_a7 : Nat} {u_a1 : Nat} {u_a2 : Nat} {u_a3 : Nat} {u_a4 : Nat} {u_a5 : Nat} {u_a6 : Nat} {u_a7 : Nat} {q1 : Nat} {q2 : Nat} {mo : Nat} {m_hard : Nat} {m_blows : Nat} {m_stripes : Nat} {m_kd : Nat} {m_wt : Nat} {m_boys : Nat} {m_learnt : Nat} {m_fond : Nat} {m_qp : Nat} {m_ql : Nat} {m_qr : Nat} {m_codes : Nat} {m_left : Nat} {m_row : Nat} {m_sv : Nat} {m_k_fond : Nat} {m_k_stripes : Nat} {m_k_learnt : Nat} {m_k_boys : Nat} {m_k_qp : Nat} {m_k_ql : Nat} {m_k_qr : Nat} (hC : zLw p s m c D cI cB cP bM b) (hX : va_X b L xs s s.heap) (hbl : b < s.heap.size) (hL : L ≤ 256) (hi : i + 4 ≤ L) (hjj : jj ≤ 64) (hG : zGw cI cB cP x x_pg x_tx x_pr x_nw x_kp x_tr x_or x_bl g1 t1 t2 a1 a2 a3 a4 a5 a6 a7 k_a1 k_a2 k_a3 k_a4 k_a5 k_a6 k_a7 u_a1 u_a2 u_a3 u_a4 u_a5 u_a6 u_a7 q1 q2 mo m_hard m_blows m_stripes m_kd m_wt m_boys m_learnt m_fond m_qp m_ql m_qr m_codes m_left m_row m_sv m_k_fond m_k_stripes m_k_learnt m_k_boys m_k_qp m_k_ql m_k_qr jj W0) (hP : va_P D vwCl W0 H) (hD : va_D (zAl s) W0) (hS : va_S (zAl s) s.heap H locs) (hl : lv_has ls 4 [(0, .ref b), (1, .ref x), (2, .ref mo), (3, .int (nI i))]) (hc : cells + 1 ≤ 638368 ∧ slots + 1 ≤ 7187145) (K : ∀ (W1 : va_W) (H1 : Heap) (locs1 : List Loc), zGw cI cB cP x x_pg x_tx x_pr x_nw x_kp x_tr x_or x_bl g1 t1 t2 a1 a2 a3 a4 a5 a6 a7 k_a1 k_a2 k_a3 k_a4 k_a5 k_a6 k_a7 u_a1 u_a2 u_a3 u_a4 u_a5 u_a6 u_a7 q1 q2 mo m_hard m_blows m_stripes m_kd m_wt m_boys m_learnt m_fond m_qp m_ql m_qr m_codes m_left m_row m_sv m_k_fond m_k_stripes m_k_learnt m_k_boys m_k_qp m_k_ql m_k_qr (jj + 1) W1 → va_P D vwCl W1 H1 → va_D (zAl s) W1 → va_S (zAl s) s.heap H1 locs1 → W p l e room_1 s m #[Value.ref b] below meth c H1 locs1 (cells + 1) (slots + 1) Q (F0 m 840 ls [])) : W p l e room_1 s m #[Value.ref b] below meth c H locs cells slots Q (F0 m 239 ls []) := by
  obtain ⟨pool, owh, obm, best, b1, b2, b3, b4, u_np, u_nh, u_fond, u_boys, u_learnt, u_stripes, u_qp, u_ql, u_qr, wI, nM, sS, sF, lM, sN, sv, hh, tR, tO, size, codes, lessons, limit, hard, blows, np, nh, fond, boys, learnt, stripes, qp, ql, qr, k_np, k_nh, k_fond, k_boys, k_learnt, k_stripes, k_qp, k_ql, k_qr, hI, pr, osz, path, kd, wt, left, row, kS, iK, hv, rfl⟩ := hG
  obtain ⟨hx, hb, hml, hown, hts, hK, hN, hM⟩ := id hC
  have hbA : ¬ zAl s b := Nat.not_le.mpr hbl
  refine lv_aload_n hx hb dL_law_239 rfl (lv_at hl 1 rfl) ?_
  refine lv_aload_n hx hb dL_law_240 rfl (lv_at hl 0 rfl) ?_
  refine lv_iload_n hx hb dL_law_241 rfl (lv_at hl 3 rfl) ?_
  refine lv_iconst (v := 1) hx hb dL_law_242 (by decide) ?_
  refine lv_iadd hx hb dL_law_243 ?_
  refine z_top (show nI i + 1 = nI (i + 1) from nI_add i 1) ?_
  refine va_sld hx hb hX hbl hbA hS (vp_in_nI (by omega) (by omega)) dL_law_244 ?_
  refine z_top (z_ld (f := xs) (a := i + 1) (by omega) rfl) ?_
  refine zL_X10_stripes hC hv (by omega) hP hD hS hl.1 ⟨by show cells ≤ 638368; omega, by show slots ≤ 7187145; omega⟩ (xs (i + 1)) ?_
  refine lv_aload_n hx hb dL_law_248 rfl (lv_at hl 2 rfl) ?_
  refine lv_aload_n hx hb dL_law_249 rfl (lv_at hl 0 rfl) ?_
  refine lv_iload_n hx hb dL_law_250 rfl (lv_at hl 3 rfl) ?_
  refine lv_iconst (v := 1) hx hb dL_law_251 (by decide) ?_
  refine lv_iadd hx hb dL_law_252 ?_
  refine z_top (show nI i + 1 = nI (i + 1) from nI_add i 1) ?_
  refine va_sld hx hb hX hbl hbA hS (vp_in_nI (by omega) (by omega)) dL_law_253 ?_
  refine z_top (z_ld (f := xs) (a := i + 1) (by omega) rfl) ?_
  refine zL_X11_stripes hC hv (by omega) (z_swP hP) (z_swD hD) hS hl.1 ⟨by show cells ≤ 638368; omega, by show slots ≤ 7187145; omega⟩ (xs (i + 1)) _ ?_
  refine lv_icmp_eq (tgt := 840) hx hb dL_law_257 (by decide) (fun _ => ?_) (fun q => absurd rfl q)
  refine W.widen (k := cells + 1) (n := slots + 1) (by omega) (by omega) ?_
  exact K _ H locs ⟨pool, owh, obm, best, b1, b2, b3, b4, u_np, u_nh, u_fond, u_boys, u_learnt, u_stripes, u_qp, u_ql, u_qr, wI, nM, sS, sF, lM, sN, sv, hh, tR, tO, size, codes, lessons, limit, hard, blows, np, nh, fond, boys, learnt, stripes, qp, ql, qr, k_np, k_nh, k_fond, k_boys, k_learnt, k_stripes, k_qp, k_ql, k_qr, hI, pr, osz, path, kd, wt, left, row, kS, iK, zInv_next hv, rfl⟩ hP hD hS
