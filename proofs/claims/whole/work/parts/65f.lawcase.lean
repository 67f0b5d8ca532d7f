set_option maxHeartbeats 4000000 in
set_option maxRecDepth 100000 in
theorem zCase_fondness {p : Program} {l : Launch} {e : Env} {s : State} {m : MethodId} {below : List Frame} {meth : Method} {c : Code} {H : Heap} {locs : List Loc} {cells slots : Nat} {Q : State → Prop} {ls : Array Slot} {D : va_G} {cI cB cP : ClassId} {bM b jj L i : Nat} {xs : Nat → Int32} {W0 : va_W} {x : Nat} {x_pg : Nat} {x_tx : Nat} {x_pr : Nat} {x_nw : Nat} {x_kp : Nat} {x_tr : Nat} {x_or : Nat} {x_bl : Nat} {g1 : Nat} {t1 : Nat} {t2 : Nat} {a1 : Nat} {a2 : Nat} {a3 : Nat} {a4 : Nat} {a5 : Nat} {a6 : Nat} {a7 : Nat} {k_a1 : Nat} {k_a2 : Nat} {k_a3 : Nat} {k_a4 : Nat} {k_a5 : Nat} {k_a6 : Nat} {k_a7 : Nat} {u_a1 : Nat} {u_a2 : Nat} {u_a3 : Nat} {u_a4 : Nat} {u_a5 : Nat} {u_a6 : Nat} {u_a7 : Nat} {q1 : Nat} {q2 : Nat} {mo : Nat} {m_hard : Nat} {m_blows : Nat} {m_stripes : Nat} {m_kd : Nat} {m_wt : Nat} {m_boys : Nat} {m_learnt : Nat} {m_fond : Nat} {m_qp : Nat} {m_ql : Nat} {m_qr : Nat} {m_codes : Nat} {m_left : Nat} {m_row : Nat} {m_sv : Nat} {m_k_fond : Nat} {m_k_stripes : Nat} {m_k_learnt : Nat} {m_k_boys : Nat} {m_k_qp : Nat} {m_k_ql : Nat} {m_k_qr : Nat} (hC : zLw p s m c D cI cB cP bM b) (hX : va_X b L xs s s.heap) (hbl : b < s.heap.size) (hL : L ≤ 256) (hi : i + 4 ≤ L) (hjj : jj ≤ 64) (hG : zGw cI cB cP x x_pg x_tx x_pr x_nw x_kp x_tr x_or x_bl g1 t1 t2 a1 a2 a3 a4 a5 a6 a7 k_a1 k_a2 k_a3 k_a4 k_a5 k_a6 k_a7 u_a1 u_a2 u_a3 u_a4 u_a5 u_a6 u_a7 q1 q2 mo m_hard m_blows m_stripes m_kd m_wt m_boys m_learnt m_fond m_qp m_ql m_qr m_codes m_left m_row m_sv m_k_fond m_k_stripes m_k_learnt m_k_boys m_k_qp m_k_ql m_k_qr jj W0) (hP : va_P D vwCl W0 H) (hD : va_D (zAl s) W0) (hS : va_S (zAl s) s.heap H locs) (hl : lv_has ls 4 [(0, .ref b), (1, .ref x), (2, .ref mo), (3, .int (nI i))]) (hc : cells + 1 ≤ 638368 ∧ slots + 1 ≤ 7187145) (K : ∀ (W1 : va_W) (H1 : Heap) (locs1 : List Loc), zGw cI cB cP x x_pg x_tx x_pr x_nw x_kp x_tr x_or x_bl g1 t1 t2 a1 a2 a3 a4 a5 a6 a7 k_a1 k_a2 k_a3 k_a4 k_a5 k_a6 k_a7 u_a1 u_a2 u_a3 u_a4 u_a5 u_a6 u_a7 q1 q2 mo m_hard m_blows m_stripes m_kd m_wt m_boys m_learnt m_fond m_qp m_ql m_qr m_codes m_left m_row m_sv m_k_fond m_k_stripes m_k_learnt m_k_boys m_k_qp m_k_ql m_k_qr (jj + 1) W1 → va_P D vwCl W1 H1 → va_D (zAl s) W1 → va_S (zAl s) s.heap H1 locs1 → W p l e room_1 s m #[Value.ref b] below meth c H1 locs1 (cells + 1) (slots + 1) Q (F0 m 840 ls [])) : W p l e room_1 s m #[Value.ref b] below meth c H locs cells slots Q (F0 m 711 ls []) := by
  obtain ⟨pool, owh, obm, best, b1, b2, b3, b4, u_np, u_nh, u_fond, u_boys, u_learnt, u_stripes, u_qp, u_ql, u_qr, wI, nM, sS, sF, lM, sN, sv, hh, tR, tO, size, codes, lessons, limit, hard, blows, np, nh, fond, boys, learnt, stripes, qp, ql, qr, k_np, k_nh, k_fond, k_boys, k_learnt, k_stripes, k_qp, k_ql, k_qr, hI, pr, osz, path, kd, wt, left, row, kS, iK, hv, rfl⟩ := hG
  obtain ⟨hx, hb, hml, hown, hts, hK, hN, hM⟩ := id hC
  have hbA : ¬ zAl s b := Nat.not_le.mpr hbl
  refine lv_aload_n hx hb dL_law_711 rfl (lv_at hl 1 rfl) ?_
  refine lv_aload_n hx hb dL_law_712 rfl (lv_at hl 0 rfl) ?_
  refine lv_iload_n hx hb dL_law_713 rfl (lv_at hl 3 rfl) ?_
  refine lv_iconst (v := 1) hx hb dL_law_714 (by decide) ?_
  refine lv_iadd hx hb dL_law_715 ?_
  refine z_top (show nI i + 1 = nI (i + 1) from nI_add i 1) ?_
  refine va_sld hx hb hX hbl hbA hS (vp_in_nI (by omega) (by omega)) dL_law_716 ?_
  refine z_top (z_ld (f := xs) (a := i + 1) (by omega) rfl) ?_
  refine zL_X10_fondness hC hv (by omega) hP hD hS hl.1 ⟨by show cells ≤ 638368; omega, by show slots ≤ 7187145; omega⟩ (fun q hq => List.mem_append_right _ hq) (xs (i + 1)) ?_
  refine lv_aload_n hx hb dL_law_720 rfl (lv_at hl 2 rfl) ?_
  refine lv_aload_n hx hb dL_law_721 rfl (lv_at hl 0 rfl) ?_
  refine lv_iload_n hx hb dL_law_722 rfl (lv_at hl 3 rfl) ?_
  refine lv_iconst (v := 1) hx hb dL_law_723 (by decide) ?_
  refine lv_iadd hx hb dL_law_724 ?_
  refine z_top (show nI i + 1 = nI (i + 1) from nI_add i 1) ?_
  refine va_sld hx hb hX hbl hbA hS (vp_in_nI (by omega) (by omega)) dL_law_725 ?_
  refine z_top (z_ld (f := xs) (a := i + 1) (by omega) rfl) ?_
  refine zL_X11_fondness hC hv (by omega) (z_swP hP) (z_swD hD) hS hl.1 ⟨by show cells ≤ 638368; omega, by show slots ≤ 7187145; omega⟩ (xs (i + 1)) _ ?_
  refine lv_icmp_eq (tgt := 840) hx hb dL_law_729 (by decide) (fun _ => ?_) (fun q => absurd rfl q)
  refine W.widen (k := cells + 1) (n := slots + 1) (by omega) (by omega) ?_
  exact K _ H locs ⟨pool, owh, obm, best, b1, b2, b3, b4, u_np, u_nh, u_fond, u_boys, u_learnt, u_stripes, u_qp, u_ql, u_qr, wI, nM, sS, sF, lM, sN, sv, hh, tR, tO, size, codes, lessons, limit, hard, blows, np, nh, fond, boys, learnt, stripes, qp, ql, qr, k_np, k_nh, k_fond, k_boys, k_learnt, k_stripes, k_qp, k_ql, k_qr, hI, pr, osz, path, kd, wt, left, row, kS, iK, zInv_next hv, rfl⟩ hP hD hS

set_option maxHeartbeats 4000000 in
set_option maxRecDepth 100000 in
theorem zCase_schools {p : Program} {l : Launch} {e : Env} {s : State} {m : MethodId} {below : List Frame} {meth : Method} {c : Code} {H : Heap} {locs : List Loc} {cells slots : Nat} {Q : State → Prop} {ls : Array Slot} {D : va_G} {cI cB cP : ClassId} {bM b jj L i : Nat} {xs : Nat → Int32} {W0 : va_W} {x : Nat} {x_pg : Nat} {x_tx : Nat} {x_pr : Nat} {x_nw : Nat} {x_kp : Nat} {x_tr : Nat} {x_or : Nat} {x_bl : Nat} {g1 : Nat} {t1 : Nat} {t2 : Nat} {a1 : Nat} {a2 : Nat} {a3 : Nat} {a4 : Nat} {a5 : Nat} {a6 : Nat} {a7 : Nat} {k_a1 : Nat} {k_a2 : Nat} {k_a3 : Nat} {k_a4 : Nat} {k_a5 : Nat} {k_a6 : Nat} {k_a7 : Nat} {u_a1 : Nat} {u_a2 : Nat} {u_a3 : Nat} {u_a4 : Nat} {u_a5 : Nat} {u_a6 : Nat} {u_a7 : Nat} {q1 : Nat} {q2 : Nat} {mo : Nat} {m_hard : Nat} {m_blows : Nat} {m_stripes : Nat} {m_kd : Nat} {m_wt : Nat} {m_boys : Nat} {m_learnt : Nat} {m_fond : Nat} {m_qp : Nat} {m_ql : Nat} {m_qr : Nat} {m_codes : Nat} {m_left : Nat} {m_row : Nat} {m_sv : Nat} {m_k_fond : Nat} {m_k_stripes : Nat} {m_k_learnt : Nat} {m_k_boys : Nat} {m_k_qp : Nat} {m_k_ql : Nat} {m_k_qr : Nat} (hC : zLw p s m c D cI cB cP bM b) (hX : va_X b L xs s s.heap) (hbl : b < s.heap.size) (hL : L ≤ 256) (hi : i + 4 ≤ L) (hjj : jj ≤ 64) (hG : zGw cI cB cP x x_pg x_tx x_pr x_nw x_kp x_tr x_or x_bl g1 t1 t2 a1 a2 a3 a4 a5 a6 a7 k_a1 k_a2 k_a3 k_a4 k_a5 k_a6 k_a7 u_a1 u_a2 u_a3 u_a4 u_a5 u_a6 u_a7 q1 q2 mo m_hard m_blows m_stripes m_kd m_wt m_boys m_learnt m_fond m_qp m_ql m_qr m_codes m_left m_row m_sv m_k_fond m_k_stripes m_k_learnt m_k_boys m_k_qp m_k_ql m_k_qr jj W0) (hP : va_P D vwCl W0 H) (hD : va_D (zAl s) W0) (hS : va_S (zAl s) s.heap H locs) (hl : lv_has ls 4 [(0, .ref b), (1, .ref x), (2, .ref mo), (3, .int (nI i))]) (hc : cells + 1 ≤ 638368 ∧ slots + 1 ≤ 7187145) (K : ∀ (W1 : va_W) (H1 : Heap) (locs1 : List Loc), zGw cI cB cP x x_pg x_tx x_pr x_nw x_kp x_tr x_or x_bl g1 t1 t2 a1 a2 a3 a4 a5 a6 a7 k_a1 k_a2 k_a3 k_a4 k_a5 k_a6 k_a7 u_a1 u_a2 u_a3 u_a4 u_a5 u_a6 u_a7 q1 q2 mo m_hard m_blows m_stripes m_kd m_wt m_boys m_learnt m_fond m_qp m_ql m_qr m_codes m_left m_row m_sv m_k_fond m_k_stripes m_k_learnt m_k_boys m_k_qp m_k_ql m_k_qr (jj + 1) W1 → va_P D vwCl W1 H1 → va_D (zAl s) W1 → va_S (zAl s) s.heap H1 locs1 → W p l e room_1 s m #[Value.ref b] below meth c H1 locs1 (cells + 1) (slots + 1) Q (F0 m 840 ls [])) : W p l e room_1 s m #[Value.ref b] below meth c H locs cells slots Q (F0 m 734 ls []) := by
  obtain ⟨pool, owh, obm, best, b1, b2, b3, b4, u_np, u_nh, u_fond, u_boys, u_learnt, u_stripes, u_qp, u_ql, u_qr, wI, nM, sS, sF, lM, sN, sv, hh, tR, tO, size, codes, lessons, limit, hard, blows, np, nh, fond, boys, learnt, stripes, qp, ql, qr, k_np, k_nh, k_fond, k_boys, k_learnt, k_stripes, k_qp, k_ql, k_qr, hI, pr, osz, path, kd, wt, left, row, kS, iK, hv, rfl⟩ := hG
  obtain ⟨hx, hb, hml, hown, hts, hK, hN, hM⟩ := id hC
  have hbA : ¬ zAl s b := Nat.not_le.mpr hbl
  refine lv_aload_n hx hb dL_law_734 rfl (lv_at hl 1 rfl) ?_
  refine lv_aload_n hx hb dL_law_735 rfl (lv_at hl 0 rfl) ?_
  refine lv_iload_n hx hb dL_law_736 rfl (lv_at hl 3 rfl) ?_
  refine lv_iconst (v := 1) hx hb dL_law_737 (by decide) ?_
  refine lv_iadd hx hb dL_law_738 ?_
  refine z_top (show nI i + 1 = nI (i + 1) from nI_add i 1) ?_
  refine va_sld hx hb hX hbl hbA hS (vp_in_nI (by omega) (by omega)) dL_law_739 ?_
  refine z_top (z_ld (f := xs) (a := i + 1) (by omega) rfl) ?_
  refine lv_aload_n hx hb dL_law_740 rfl (lv_at hl 0 rfl) ?_
  refine lv_iload_n hx hb dL_law_741 rfl (lv_at hl 3 rfl) ?_
  refine lv_iconst (v := 2) hx hb dL_law_742 (by decide) ?_
  refine lv_iadd hx hb dL_law_743 ?_
  refine z_top (show nI i + 2 = nI (i + 2) from nI_add i 2) ?_
  refine va_sld hx hb hX hbl hbA hS (vp_in_nI (by omega) (by omega)) dL_law_744 ?_
  refine z_top (z_ld (f := xs) (a := i + 2) (by omega) rfl) ?_
  refine lv_aload_n hx hb dL_law_745 rfl (lv_at hl 0 rfl) ?_
  refine lv_iload_n hx hb dL_law_746 rfl (lv_at hl 3 rfl) ?_
  refine lv_iconst (v := 3) hx hb dL_law_747 (by decide) ?_
  refine lv_iadd hx hb dL_law_748 ?_
  refine z_top (show nI i + 3 = nI (i + 3) from nI_add i 3) ?_
  refine va_sld hx hb hX hbl hbA hS (vp_in_nI (by omega) (by omega)) dL_law_749 ?_
  refine z_top (z_ld (f := xs) (a := i + 3) (by omega) rfl) ?_
  refine zL_X10_schools hC hv (by omega) hP hD hS hl.1 ⟨by show cells ≤ 638368; omega, by show slots ≤ 7187145; omega⟩ (fun q hq => List.mem_append_right _ hq) (xs (i + 1)) (xs (i + 2)) (xs (i + 3)) (fun z_v_np z_v_nh z_v_fond z_v_boys z_v_learnt z_v_stripes z_v_qp z_v_ql z_v_qr H locs  hP hD hS => ?_)
  refine lv_aload_n hx hb dL_law_753 rfl (lv_at hl 2 rfl) ?_
  refine lv_aload_n hx hb dL_law_754 rfl (lv_at hl 0 rfl) ?_
  refine lv_iload_n hx hb dL_law_755 rfl (lv_at hl 3 rfl) ?_
  refine lv_iconst (v := 1) hx hb dL_law_756 (by decide) ?_
  refine lv_iadd hx hb dL_law_757 ?_
  refine z_top (show nI i + 1 = nI (i + 1) from nI_add i 1) ?_
  refine va_sld hx hb hX hbl hbA hS (vp_in_nI (by omega) (by omega)) dL_law_758 ?_
  refine z_top (z_ld (f := xs) (a := i + 1) (by omega) rfl) ?_
  refine lv_aload_n hx hb dL_law_759 rfl (lv_at hl 0 rfl) ?_
  refine lv_iload_n hx hb dL_law_760 rfl (lv_at hl 3 rfl) ?_
  refine lv_iconst (v := 2) hx hb dL_law_761 (by decide) ?_
  refine lv_iadd hx hb dL_law_762 ?_
  refine z_top (show nI i + 2 = nI (i + 2) from nI_add i 2) ?_
  refine va_sld hx hb hX hbl hbA hS (vp_in_nI (by omega) (by omega)) dL_law_763 ?_
  refine z_top (z_ld (f := xs) (a := i + 2) (by omega) rfl) ?_
  refine lv_aload_n hx hb dL_law_764 rfl (lv_at hl 0 rfl) ?_
  refine lv_iload_n hx hb dL_law_765 rfl (lv_at hl 3 rfl) ?_
  refine lv_iconst (v := 3) hx hb dL_law_766 (by decide) ?_
  refine lv_iadd hx hb dL_law_767 ?_
  refine z_top (show nI i + 3 = nI (i + 3) from nI_add i 3) ?_
  refine va_sld hx hb hX hbl hbA hS (vp_in_nI (by omega) (by omega)) dL_law_768 ?_
  refine z_top (z_ld (f := xs) (a := i + 3) (by omega) rfl) ?_
  refine zL_X11_schools hC hv (by omega) (z_swP hP) (z_swD hD) hS hl.1 ⟨by show cells ≤ 638368; omega, by show slots ≤ 7187145; omega⟩ (xs (i + 1)) (xs (i + 2)) (xs (i + 3)) _ (fun z_u_sN z_u_sv H locs  hP hD hS => ?_)
  have hP := z_swP hP
  have hD := z_swD hD
  refine lv_icmp_eq (tgt := 840) hx hb dL_law_772 (by decide) (fun _ => ?_) (fun q => absurd rfl q)
  refine W.widen (k := cells + 1) (n := slots + 1) (by omega) (by omega) ?_
  exact K _ H locs ⟨pool, owh, obm, best, b1, b2, b3, b4, z_v_np, z_v_nh, z_v_fond, z_v_boys, z_v_learnt, z_v_stripes, z_v_qp, z_v_ql, z_v_qr, wI, nM, sS, sF, lM, z_u_sN, z_u_sv, hh, tR, tO, size, codes, lessons, limit, hard, blows, np, nh, fond, boys, learnt, stripes, qp, ql, qr, k_np, k_nh, k_fond, k_boys, k_learnt, k_stripes, k_qp, k_ql, k_qr, hI, pr, osz, path, kd, wt, left, row, kS, iK, zInv_next hv, rfl⟩ hP hD hS

set_option maxHeartbeats 4000000 in
set_option maxRecDepth 100000 in
theorem zCase_image {p : Program} {l : Launch} {e : Env} {s : State} {m : MethodId} {below : List Frame} {meth : Method} {c : Code} {H : Heap} {locs : List Loc} {cells slots : Nat} {Q : State → Prop} {ls : Array Slot} {D : va_G} {cI cB cP : ClassId} {bM b jj L i : Nat} {xs : Nat → Int32} {W0 : va_W} {x : Nat} {x_pg : Nat} {x_tx : Nat} {x_pr : Nat} {x_nw : Nat} {x_kp : Nat} {x_tr : Nat} {x_or : Nat} {x_bl : Nat} {g1 : Nat} {t1 : Nat} {t2 : Nat} {a1 : Nat} {a2 : Nat} {a3 : Nat} {a4 : Nat} {a5 : Nat} {a6 : Nat} {a7 : Nat} {k_a1 : Nat} {k_a2 : Nat} {k_a3 : Nat} {k_a4 : Nat} {k_a5 : Nat} {k_a6 : Nat} {k_a7 : Nat} {u_a1 : Nat} {u_a2 : Nat} {u_a3 : Nat} {u_a4 : Nat} {u_a5 : Nat} {u_a6 : Nat} {u_a7 : Nat} {q1 : Nat} {q2 : Nat} {mo : Nat} {m_hard : Nat} {m_blows : Nat} {m_stripes : Nat} {m_kd : Nat} {m_wt : Nat} {m_boys : Nat} {m_learnt : Nat} {m_fond : Nat} {m_qp : Nat} {m_ql : Nat} {m_qr : Nat} {m_codes : Nat} {m_left : Nat} {m_row : Nat} {m_sv : Nat} {m_k_fond : Nat} {m_k_stripes : Nat} {m_k_learnt : Nat} {m_k_boys : Nat} {m_k_qp : Nat} {m_k_ql : Nat} {m_k_qr : Nat} (hC : zLw p s m c D cI cB cP bM b) (hX : va_X b L xs s s.heap) (hbl : b < s.heap.size) (hL : L ≤ 256) (hi : i + 4 ≤ L) (hjj : jj ≤ 64) (hG : zGw cI cB cP x x_pg x_tx x_pr x_nw x_kp x_tr x_or x_bl g1 t1 t2 a1 a2 a3 a4 a5 a6 a7 k_a1 k_a2 k_a3 k_a4 k_a5 k_a6 k_a7 u_a1 u_a2 u_a3 u_a4 u_a5 u_a6 u_a7 q1 q2 mo m_hard m_blows m_stripes m_kd m_wt m_boys m_learnt m_fond m_qp m_ql m_qr m_codes m_left m_row m_sv m_k_fond m_k_stripes m_k_learnt m_k_boys m_k_qp m_k_ql m_k_qr jj W0) (hP : va_P D vwCl W0 H) (hD : va_D (zAl s) W0) (hS : va_S (zAl s) s.heap H locs) (hl : lv_has ls 4 [(0, .ref b), (1, .ref x), (2, .ref mo), (3, .int (nI i))]) (hc : cells + 1 ≤ 638368 ∧ slots + 1 ≤ 7187145) (K : ∀ (W1 : va_W) (H1 : Heap) (locs1 : List Loc), zGw cI cB cP x x_pg x_tx x_pr x_nw x_kp x_tr x_or x_bl g1 t1 t2 a1 a2 a3 a4 a5 a6 a7 k_a1 k_a2 k_a3 k_a4 k_a5 k_a6 k_a7 u_a1 u_a2 u_a3 u_a4 u_a5 u_a6 u_a7 q1 q2 mo m_hard m_blows m_stripes m_kd m_wt m_boys m_learnt m_fond m_qp m_ql m_qr m_codes m_left m_row m_sv m_k_fond m_k_stripes m_k_learnt m_k_boys m_k_qp m_k_ql m_k_qr (jj + 1) W1 → va_P D vwCl W1 H1 → va_D (zAl s) W1 → va_S (zAl s) s.heap H1 locs1 → W p l e room_1 s m #[Value.ref b] below meth c H1 locs1 (cells + 1) (slots + 1) Q (F0 m 840 ls [])) : W p l e room_1 s m #[Value.ref b] below meth c H locs cells slots Q (F0 m 777 ls []) := by
  obtain ⟨pool, owh, obm, best, b1, b2, b3, b4, u_np, u_nh, u_fond, u_boys, u_learnt, u_stripes, u_qp, u_ql, u_qr, wI, nM, sS, sF, lM, sN, sv, hh, tR, tO, size, codes, lessons, limit, hard, blows, np, nh, fond, boys, learnt, stripes, qp, ql, qr, k_np, k_nh, k_fond, k_boys, k_learnt, k_stripes, k_qp, k_ql, k_qr, hI, pr, osz, path, kd, wt, left, row, kS, iK, hv, rfl⟩ := hG
  obtain ⟨hx, hb, hml, hown, hts, hK, hN, hM⟩ := id hC
  have hbA : ¬ zAl s b := Nat.not_le.mpr hbl
  refine lv_aload_n hx hb dL_law_777 rfl (lv_at hl 1 rfl) ?_
  refine zL_X10_image hC hv (by omega) hP hD hS hl.1 ⟨by show cells ≤ 638368; omega, by show slots ≤ 7187145; omega⟩ (fun  H locs  hP hD hS => ?_)
  refine lv_aload_n hx hb dL_law_781 rfl (lv_at hl 2 rfl) ?_
  refine zL_X11_image hC hv (by omega) (z_swP hP) (z_swD hD) hS hl.1 ⟨by show cells ≤ 638368; omega, by show slots ≤ 7187145; omega⟩ _ (fun  H locs  hP hD hS => ?_)
  have hP := z_swP hP
  have hD := z_swD hD
  refine lv_icmp_eq (tgt := 840) hx hb dL_law_785 (by decide) (fun _ => ?_) (fun q => absurd rfl q)
  refine W.widen (k := cells + 1) (n := slots + 1) (by omega) (by omega) ?_
  exact K _ H locs ⟨pool, owh, obm, best, b1, b2, b3, b4, u_np, u_nh, u_fond, u_boys, u_learnt, u_stripes, u_qp, u_ql, u_qr, wI, nM, sS, sF, lM, sN, sv, hh, tR, tO, size, codes, lessons, limit, hard, blows, np, nh, fond, boys, learnt, stripes, qp, ql, qr, if lessons = 0 then k_np else np, if lessons = 0 then k_nh else nh, if lessons = 0 then k_fond else fond, if lessons = 0 then k_boys else boys, if lessons = 0 then k_learnt else learnt, if lessons = 0 then k_stripes else stripes, if lessons = 0 then k_qp else qp, if lessons = 0 then k_ql else ql, if lessons = 0 then k_qr else qr, if lessons = 0 then hI else 1, pr, osz, path, kd, wt, left, row, if lessons = 0 then kS else tR, if lessons = 0 then iK else 1, zI_image hv, rfl⟩ hP hD hS
