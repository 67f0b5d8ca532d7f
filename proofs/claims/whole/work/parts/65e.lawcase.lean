set_option maxHeartbeats 4000000 in
set_option maxRecDepth 100000 in
theorem zCase_faults {p : Program} {l : Launch} {e : Env} {s : State} {m : MethodId} {below : List Frame} {meth : Method} {c : Code} {H : Heap} {locs : List Loc} {cells slots : Nat} {Q : State → Prop} {ls : Array Slot} {D : va_G} {cI cB cP : ClassId} {bM b jj L i : Nat} {xs : Nat → Int32} {W0 : va_W} {x : Nat} {x_pg : Nat} {x_tx : Nat} {x_pr : Nat} {x_nw : Nat} {x_kp : Nat} {x_tr : Nat} {x_or : Nat} {x_bl : Nat} {g1 : Nat} {t1 : Nat} {t2 : Nat} {a1 : Nat} {a2 : Nat} {a3 : Nat} {a4 : Nat} {a5 : Nat} {a6 : Nat} {a7 : Nat} {k_a1 : Nat} {k_a2 : Nat} {k_a3 : Nat} {k_a4 : Nat} {k_a5 : Nat} {k_a6 : Nat} {k_a7 : Nat} {u_a1 : Nat} {u_a2 : Nat} {u_a3 : Nat} {u_a4 : Nat} {u_a5 : Nat} {u_a6 : Nat} {u_a7 : Nat} {q1 : Nat} {q2 : Nat} {mo : Nat} {m_hard : Nat} {m_blows : Nat} {m_stripes : Nat} {m_kd : Nat} {m_wt : Nat} {m_boys : Nat} {m_learnt : Nat} {m_fond : Nat} {m_qp : Nat} {m_ql : Nat} {m_qr : Nat} {m_codes : Nat} {m_left : Nat} {m_row : Nat} {m_sv : Nat} {m_k_fond : Nat} {m_k_stripes : Nat} {m_k_learnt : Nat} {m_k_boys : Nat} {m_k_qp : Nat} {m_k_ql : Nat} {m_k_qr : Nat} (hC : zLw p s m c D cI cB cP bM b) (hX : va_X b L xs s s.heap) (hbl : b < s.heap.size) (hL : L ≤ 256) (hi : i + 4 ≤ L) (hjj : jj ≤ 64) (hG : zGw cI cB cP x x_pg x_tx x_pr x_nw x_kp x_tr x_or x_bl g1 t1 t2 a1 a2 a3 a4 a5 a6 a7 k_a1 k_a2 k_a3 k_a4 k_a5 k_a6 k_a7 u_a1 u_a2 u_a3 u_a4 u_a5 u_a6 u_a7 q1 q2 mo m_hard m_blows m_stripes m_kd m_wt m_boys m_learnt m_fond m_qp m_ql m_qr m_codes m_left m_row m_sv m_k_fond m_k_stripes m_k_learnt m_k_boys m_k_qp m_k_ql m_k_qr jj W0) (hP : va_P D vwCl W0 H) (hD : va_D (zAl s) W0) (hS : va_S (zAl s) s.heap H locs) (hl : lv_has ls 4 [(0, .ref b), (1, .ref x), (2, .ref mo), (3, .int (nI i))]) (hc : cells + 1 ≤ 638368 ∧ slots + 1 ≤ 7187145) (K : ∀ (W1 : va_W) (H1 : Heap) (locs1 : List Loc), zGw cI cB cP x x_pg x_tx x_pr x_nw x_kp x_tr x_or x_bl g1 t1 t2 a1 a2 a3 a4 a5 a6 a7 k_a1 k_a2 k_a3 k_a4 k_a5 k_a6 k_a7 u_a1 u_a2 u_a3 u_a4 u_a5 u_a6 u_a7 q1 q2 mo m_hard m_blows m_stripes m_kd m_wt m_boys m_learnt m_fond m_qp m_ql m_qr m_codes m_left m_row m_sv m_k_fond m_k_stripes m_k_learnt m_k_boys m_k_qp m_k_ql m_k_qr (jj + 1) W1 → va_P D vwCl W1 H1 → va_D (zAl s) W1 → va_S (zAl s) s.heap H1 locs1 → W p l e room_1 s m #[Value.ref b] below meth c H1 locs1 (cells + 1) (slots + 1) Q (F0 m 840 ls [])) : W p l e room_1 s m #[Value.ref b] below meth c H locs cells slots Q (F0 m 596 ls []) := by
  obtain ⟨pool, owh, obm, best, b1, b2, b3, b4, u_np, u_nh, u_fond, u_boys, u_learnt, u_stripes, u_qp, u_ql, u_qr, wI, nM, sS, sF, lM, sN, sv, hh, tR, tO, size, codes, lessons, limit, hard, blows, np, nh, fond, boys, learnt, stripes, qp, ql, qr, k_np, k_nh, k_fond, k_boys, k_learnt, k_stripes, k_qp, k_ql, k_qr, hI, pr, osz, path, kd, wt, left, row, kS, iK, hv, rfl⟩ := hG
  obtain ⟨hx, hb, hml, hown, hts, hK, hN, hM⟩ := id hC
  have hbA : ¬ zAl s b := Nat.not_le.mpr hbl
  refine lv_aload_n hx hb dL_law_596 rfl (lv_at hl 1 rfl) ?_
  refine lv_aload_n hx hb dL_law_597 rfl (lv_at hl 0 rfl) ?_
  refine lv_iload_n hx hb dL_law_598 rfl (lv_at hl 3 rfl) ?_
  refine lv_iconst (v := 1) hx hb dL_law_599 (by decide) ?_
  refine lv_iadd hx hb dL_law_600 ?_
  refine z_top (show nI i + 1 = nI (i + 1) from nI_add i 1) ?_
  refine va_sld hx hb hX hbl hbA hS (vp_in_nI (by omega) (by omega)) dL_law_601 ?_
  refine z_top (z_ld (f := xs) (a := i + 1) (by omega) rfl) ?_
  refine lv_aload_n hx hb dL_law_602 rfl (lv_at hl 0 rfl) ?_
  refine lv_iload_n hx hb dL_law_603 rfl (lv_at hl 3 rfl) ?_
  refine lv_iconst (v := 2) hx hb dL_law_604 (by decide) ?_
  refine lv_iadd hx hb dL_law_605 ?_
  refine z_top (show nI i + 2 = nI (i + 2) from nI_add i 2) ?_
  refine va_sld hx hb hX hbl hbA hS (vp_in_nI (by omega) (by omega)) dL_law_606 ?_
  refine z_top (z_ld (f := xs) (a := i + 2) (by omega) rfl) ?_
  refine lv_aload_n hx hb dL_law_607 rfl (lv_at hl 0 rfl) ?_
  refine lv_iload_n hx hb dL_law_608 rfl (lv_at hl 3 rfl) ?_
  refine lv_iconst (v := 3) hx hb dL_law_609 (by decide) ?_
  refine lv_iadd hx hb dL_law_610 ?_
  refine z_top (show nI i + 3 = nI (i + 3) from nI_add i 3) ?_
  refine va_sld hx hb hX hbl hbA hS (vp_in_nI (by omega) (by omega)) dL_law_611 ?_
  refine z_top (z_ld (f := xs) (a := i + 3) (by omega) rfl) ?_
  refine zL_X10_faults hC hv (by omega) hP hD hS hl.1 ⟨by show cells ≤ 638368; omega, by show slots ≤ 7187145; omega⟩ (fun q hq => List.mem_append_right _ hq) (xs (i + 1)) (xs (i + 2)) (xs (i + 3)) (fun z_u1 z_u2 z_u3 z_u4 H locs  hP hD hS => ?_)
  refine lv_aload_n hx hb dL_law_615 rfl (lv_at hl 2 rfl) ?_
  refine lv_aload_n hx hb dL_law_616 rfl (lv_at hl 0 rfl) ?_
  refine lv_iload_n hx hb dL_law_617 rfl (lv_at hl 3 rfl) ?_
  refine lv_iconst (v := 1) hx hb dL_law_618 (by decide) ?_
  refine lv_iadd hx hb dL_law_619 ?_
  refine z_top (show nI i + 1 = nI (i + 1) from nI_add i 1) ?_
  refine va_sld hx hb hX hbl hbA hS (vp_in_nI (by omega) (by omega)) dL_law_620 ?_
  refine z_top (z_ld (f := xs) (a := i + 1) (by omega) rfl) ?_
  refine lv_aload_n hx hb dL_law_621 rfl (lv_at hl 0 rfl) ?_
  refine lv_iload_n hx hb dL_law_622 rfl (lv_at hl 3 rfl) ?_
  refine lv_iconst (v := 2) hx hb dL_law_623 (by decide) ?_
  refine lv_iadd hx hb dL_law_624 ?_
  refine z_top (show nI i + 2 = nI (i + 2) from nI_add i 2) ?_
  refine va_sld hx hb hX hbl hbA hS (vp_in_nI (by omega) (by omega)) dL_law_625 ?_
  refine z_top (z_ld (f := xs) (a := i + 2) (by omega) rfl) ?_
  refine lv_aload_n hx hb dL_law_626 rfl (lv_at hl 0 rfl) ?_
  refine lv_iload_n hx hb dL_law_627 rfl (lv_at hl 3 rfl) ?_
  refine lv_iconst (v := 3) hx hb dL_law_628 (by decide) ?_
  refine lv_iadd hx hb dL_law_629 ?_
  refine z_top (show nI i + 3 = nI (i + 3) from nI_add i 3) ?_
  refine va_sld hx hb hX hbl hbA hS (vp_in_nI (by omega) (by omega)) dL_law_630 ?_
  refine z_top (z_ld (f := xs) (a := i + 3) (by omega) rfl) ?_
  refine zL_X11_faults hC hv (by omega) (z_swP hP) (z_swD hD) hS hl.1 ⟨by show cells ≤ 638368; omega, by show slots ≤ 7187145; omega⟩ (xs (i + 1)) (xs (i + 2)) (xs (i + 3)) _ (fun z_u_lM z_u_sS z_u_sF z_u_left H locs hu1 hP hD hS => ?_)
  have hP := z_swP hP
  have hD := z_swD hD
  refine lv_icmp_eq (tgt := 840) hx hb dL_law_634 (by decide) (fun _ => ?_) (fun q => absurd rfl q)
  refine W.widen (k := cells + 1) (n := slots + 1) (by omega) (by omega) ?_
  exact K _ H locs ⟨pool, owh, obm, best, z_u1, z_u2, z_u3, z_u4, u_np, u_nh, u_fond, u_boys, u_learnt, u_stripes, u_qp, u_ql, u_qr, wI, nM, z_u_sS, z_u_sF, z_u_lM, sN, sv, hh, tR, tO, size, codes, lessons, limit, hard, blows, np, nh, fond, boys, learnt, stripes, qp, ql, qr, k_np, k_nh, k_fond, k_boys, k_learnt, k_stripes, k_qp, k_ql, k_qr, hI, pr, osz, path, kd, wt, z_u_left, row, kS, iK, zI_faults hv hu1, rfl⟩ hP hD hS

set_option maxHeartbeats 4000000 in
set_option maxRecDepth 100000 in
theorem zCase_hear {p : Program} {l : Launch} {e : Env} {s : State} {m : MethodId} {below : List Frame} {meth : Method} {c : Code} {H : Heap} {locs : List Loc} {cells slots : Nat} {Q : State → Prop} {ls : Array Slot} {D : va_G} {cI cB cP : ClassId} {bM b jj L i : Nat} {xs : Nat → Int32} {W0 : va_W} {x : Nat} {x_pg : Nat} {x_tx : Nat} {x_pr : Nat} {x_nw : Nat} {x_kp : Nat} {x_tr : Nat} {x_or : Nat} {x_bl : Nat} {g1 : Nat} {t1 : Nat} {t2 : Nat} {a1 : Nat} {a2 : Nat} {a3 : Nat} {a4 : Nat} {a5 : Nat} {a6 : Nat} {a7 : Nat} {k_a1 : Nat} {k_a2 : Nat} {k_a3 : Nat} {k_a4 : Nat} {k_a5 : Nat} {k_a6 : Nat} {k_a7 : Nat} {u_a1 : Nat} {u_a2 : Nat} {u_a3 : Nat} {u_a4 : Nat} {u_a5 : Nat} {u_a6 : Nat} {u_a7 : Nat} {q1 : Nat} {q2 : Nat} {mo : Nat} {m_hard : Nat} {m_blows : Nat} {m_stripes : Nat} {m_kd : Nat} {m_wt : Nat} {m_boys : Nat} {m_learnt : Nat} {m_fond : Nat} {m_qp : Nat} {m_ql : Nat} {m_qr : Nat} {m_codes : Nat} {m_left : Nat} {m_row : Nat} {m_sv : Nat} {m_k_fond : Nat} {m_k_stripes : Nat} {m_k_learnt : Nat} {m_k_boys : Nat} {m_k_qp : Nat} {m_k_ql : Nat} {m_k_qr : Nat} (hC : zLw p s m c D cI cB cP bM b) (hX : va_X b L xs s s.heap) (hbl : b < s.heap.size) (hL : L ≤ 256) (hi : i + 4 ≤ L) (hjj : jj ≤ 64) (hG : zGw cI cB cP x x_pg x_tx x_pr x_nw x_kp x_tr x_or x_bl g1 t1 t2 a1 a2 a3 a4 a5 a6 a7 k_a1 k_a2 k_a3 k_a4 k_a5 k_a6 k_a7 u_a1 u_a2 u_a3 u_a4 u_a5 u_a6 u_a7 q1 q2 mo m_hard m_blows m_stripes m_kd m_wt m_boys m_learnt m_fond m_qp m_ql m_qr m_codes m_left m_row m_sv m_k_fond m_k_stripes m_k_learnt m_k_boys m_k_qp m_k_ql m_k_qr jj W0) (hP : va_P D vwCl W0 H) (hD : va_D (zAl s) W0) (hS : va_S (zAl s) s.heap H locs) (hl : lv_has ls 4 [(0, .ref b), (1, .ref x), (2, .ref mo), (3, .int (nI i))]) (hc : cells + 1 ≤ 638368 ∧ slots + 1 ≤ 7187145) (K : ∀ (W1 : va_W) (H1 : Heap) (locs1 : List Loc), zGw cI cB cP x x_pg x_tx x_pr x_nw x_kp x_tr x_or x_bl g1 t1 t2 a1 a2 a3 a4 a5 a6 a7 k_a1 k_a2 k_a3 k_a4 k_a5 k_a6 k_a7 u_a1 u_a2 u_a3 u_a4 u_a5 u_a6 u_a7 q1 q2 mo m_hard m_blows m_stripes m_kd m_wt m_boys m_learnt m_fond m_qp m_ql m_qr m_codes m_left m_row m_sv m_k_fond m_k_stripes m_k_learnt m_k_boys m_k_qp m_k_ql m_k_qr (jj + 1) W1 → va_P D vwCl W1 H1 → va_D (zAl s) W1 → va_S (zAl s) s.heap H1 locs1 → W p l e room_1 s m #[Value.ref b] below meth c H1 locs1 (cells + 1) (slots + 1) Q (F0 m 840 ls [])) : W p l e room_1 s m #[Value.ref b] below meth c H locs cells slots Q (F0 m 639 ls []) := by
  obtain ⟨pool, owh, obm, best, b1, b2, b3, b4, u_np, u_nh, u_fond, u_boys, u_learnt, u_stripes, u_qp, u_ql, u_qr, wI, nM, sS, sF, lM, sN, sv, hh, tR, tO, size, codes, lessons, limit, hard, blows, np, nh, fond, boys, learnt, stripes, qp, ql, qr, k_np, k_nh, k_fond, k_boys, k_learnt, k_stripes, k_qp, k_ql, k_qr, hI, pr, osz, path, kd, wt, left, row, kS, iK, hv, rfl⟩ := hG
  obtain ⟨hx, hb, hml, hown, hts, hK, hN, hM⟩ := id hC
  have hbA : ¬ zAl s b := Nat.not_le.mpr hbl
  by_cases hz : xs (i + 3) = 0
  · refine lv_aload_n hx hb dL_law_639 rfl (lv_at hl 1 rfl) ?_
    refine lv_aload_n hx hb dL_law_640 rfl (lv_at hl 0 rfl) ?_
    refine lv_iload_n hx hb dL_law_641 rfl (lv_at hl 3 rfl) ?_
    refine lv_iconst (v := 1) hx hb dL_law_642 (by decide) ?_
    refine lv_iadd hx hb dL_law_643 ?_
    refine z_top (show nI i + 1 = nI (i + 1) from nI_add i 1) ?_
    refine va_sld hx hb hX hbl hbA hS (vp_in_nI (by omega) (by omega)) dL_law_644 ?_
    refine z_top (z_ld (f := xs) (a := i + 1) (by omega) rfl) ?_
    refine lv_aload_n hx hb dL_law_645 rfl (lv_at hl 0 rfl) ?_
    refine lv_iload_n hx hb dL_law_646 rfl (lv_at hl 3 rfl) ?_
    refine lv_iconst (v := 2) hx hb dL_law_647 (by decide) ?_
    refine lv_iadd hx hb dL_law_648 ?_
    refine z_top (show nI i + 2 = nI (i + 2) from nI_add i 2) ?_
    refine va_sld hx hb hX hbl hbA hS (vp_in_nI (by omega) (by omega)) dL_law_649 ?_
    refine z_top (z_ld (f := xs) (a := i + 2) (by omega) rfl) ?_
    refine lv_aload_n hx hb dL_law_650 rfl (lv_at hl 0 rfl) ?_
    refine lv_iload_n hx hb dL_law_651 rfl (lv_at hl 3 rfl) ?_
    refine lv_iconst (v := 3) hx hb dL_law_652 (by decide) ?_
    refine lv_iadd hx hb dL_law_653 ?_
    refine z_top (show nI i + 3 = nI (i + 3) from nI_add i 3) ?_
    refine va_sld hx hb hX hbl hbA hS (vp_in_nI (by omega) (by omega)) dL_law_654 ?_
    refine z_top (z_ld (f := xs) (a := i + 3) (by omega) rfl) ?_
    refine lv_if_eq (tgt := 662) hx hb dL_law_655 (by decide) (fun _ => ?_) (fun q => absurd hz q)
    refine lv_iconst (v := 0) hx hb dL_law_662 (by decide) ?_
    refine z_top (show (0 : Int32) = nI 0 from rfl) ?_
    refine zL_X10_hear hC hv (by omega) hP hD hS hl.1 ⟨by show cells ≤ 638368; omega, by show slots ≤ 7187145; omega⟩ (fun q hq => List.mem_append_right _ hq) (xs (i + 1)) (xs (i + 2)) 0 (by decide) (fun  H locs  hP hD hS => ?_)
    refine lv_aload_n hx hb dL_law_666 rfl (lv_at hl 2 rfl) ?_
    refine lv_aload_n hx hb dL_law_667 rfl (lv_at hl 0 rfl) ?_
    refine lv_iload_n hx hb dL_law_668 rfl (lv_at hl 3 rfl) ?_
    refine lv_iconst (v := 1) hx hb dL_law_669 (by decide) ?_
    refine lv_iadd hx hb dL_law_670 ?_
    refine z_top (show nI i + 1 = nI (i + 1) from nI_add i 1) ?_
    refine va_sld hx hb hX hbl hbA hS (vp_in_nI (by omega) (by omega)) dL_law_671 ?_
    refine z_top (z_ld (f := xs) (a := i + 1) (by omega) rfl) ?_
    refine lv_aload_n hx hb dL_law_672 rfl (lv_at hl 0 rfl) ?_
    refine lv_iload_n hx hb dL_law_673 rfl (lv_at hl 3 rfl) ?_
    refine lv_iconst (v := 2) hx hb dL_law_674 (by decide) ?_
    refine lv_iadd hx hb dL_law_675 ?_
    refine z_top (show nI i + 2 = nI (i + 2) from nI_add i 2) ?_
    refine va_sld hx hb hX hbl hbA hS (vp_in_nI (by omega) (by omega)) dL_law_676 ?_
    refine z_top (z_ld (f := xs) (a := i + 2) (by omega) rfl) ?_
    refine lv_aload_n hx hb dL_law_677 rfl (lv_at hl 0 rfl) ?_
    refine lv_iload_n hx hb dL_law_678 rfl (lv_at hl 3 rfl) ?_
    refine lv_iconst (v := 3) hx hb dL_law_679 (by decide) ?_
    refine lv_iadd hx hb dL_law_680 ?_
    refine z_top (show nI i + 3 = nI (i + 3) from nI_add i 3) ?_
    refine va_sld hx hb hX hbl hbA hS (vp_in_nI (by omega) (by omega)) dL_law_681 ?_
    refine z_top (z_ld (f := xs) (a := i + 3) (by omega) rfl) ?_
    refine lv_if_eq (tgt := 689) hx hb dL_law_682 (by decide) (fun _ => ?_) (fun q => absurd hz q)
    refine lv_iconst (v := 0) hx hb dL_law_689 (by decide) ?_
    refine z_top (show (0 : Int32) = nI 0 from rfl) ?_
    refine zL_X11_hear hC hv (by omega) (z_swP hP) (z_swD hD) hS hl.1 ⟨by show cells ≤ 638368; omega, by show slots ≤ 7187145; omega⟩ (xs (i + 1)) (xs (i + 2)) 0 (by decide) _ (fun  H locs  hP hD hS => ?_)
    have hP := z_swP hP
    have hD := z_swD hD
    refine lv_icmp_eq (tgt := 840) hx hb dL_law_693 (by decide) (fun _ => ?_) (fun q => absurd rfl q)
    refine W.widen (k := cells + 1) (n := slots + 1) (by omega) (by omega) ?_
    exact K _ H locs ⟨pool, owh, obm, best, b1, b2, b3, b4, u_np, u_nh, u_fond, u_boys, u_learnt, u_stripes, u_qp, u_ql, u_qr, wI, nM, sS, sF, lM, sN, sv, hh, tR, tO, size, codes, lessons, limit, hard, blows, np, if zHearM np lessons nh (xs (i + 1)) (xs (i + 2)) = 2 then nh + 1 else nh, fond, boys, learnt, stripes, if zHearM np lessons nh (xs (i + 1)) (xs (i + 2)) = 2 then va_up qp nh ((xs (i + 1)).toNatClampNeg) else qp, if zHearM np lessons nh (xs (i + 1)) (xs (i + 2)) = 2 then va_up ql nh ((xs (i + 2)).toNatClampNeg) else ql, if zHearM np lessons nh (xs (i + 1)) (xs (i + 2)) = 2 then va_up qr nh 0 else qr, k_np, k_nh, k_fond, k_boys, k_learnt, k_stripes, k_qp, k_ql, k_qr, hI, pr, osz, path, kd, wt, left, row, kS, iK, zI_hear hv (xs (i + 1)) (xs (i + 2)) 0 (by decide), rfl⟩ hP hD hS
  · refine lv_aload_n hx hb dL_law_639 rfl (lv_at hl 1 rfl) ?_
    refine lv_aload_n hx hb dL_law_640 rfl (lv_at hl 0 rfl) ?_
    refine lv_iload_n hx hb dL_law_641 rfl (lv_at hl 3 rfl) ?_
    refine lv_iconst (v := 1) hx hb dL_law_642 (by decide) ?_
    refine lv_iadd hx hb dL_law_643 ?_
    refine z_top (show nI i + 1 = nI (i + 1) from nI_add i 1) ?_
    refine va_sld hx hb hX hbl hbA hS (vp_in_nI (by omega) (by omega)) dL_law_644 ?_
    refine z_top (z_ld (f := xs) (a := i + 1) (by omega) rfl) ?_
    refine lv_aload_n hx hb dL_law_645 rfl (lv_at hl 0 rfl) ?_
    refine lv_iload_n hx hb dL_law_646 rfl (lv_at hl 3 rfl) ?_
    refine lv_iconst (v := 2) hx hb dL_law_647 (by decide) ?_
    refine lv_iadd hx hb dL_law_648 ?_
    refine z_top (show nI i + 2 = nI (i + 2) from nI_add i 2) ?_
    refine va_sld hx hb hX hbl hbA hS (vp_in_nI (by omega) (by omega)) dL_law_649 ?_
    refine z_top (z_ld (f := xs) (a := i + 2) (by omega) rfl) ?_
    refine lv_aload_n hx hb dL_law_650 rfl (lv_at hl 0 rfl) ?_
    refine lv_iload_n hx hb dL_law_651 rfl (lv_at hl 3 rfl) ?_
    refine lv_iconst (v := 3) hx hb dL_law_652 (by decide) ?_
    refine lv_iadd hx hb dL_law_653 ?_
    refine z_top (show nI i + 3 = nI (i + 3) from nI_add i 3) ?_
    refine va_sld hx hb hX hbl hbA hS (vp_in_nI (by omega) (by omega)) dL_law_654 ?_
    refine z_top (z_ld (f := xs) (a := i + 3) (by omega) rfl) ?_
    refine lv_if_eq (tgt := 662) hx hb dL_law_655 (by decide) (fun q => absurd q hz) (fun _ => ?_)
    refine lv_iconst (v := 1) hx hb dL_law_658 (by decide) ?_
    refine lv_goto (tgt := 663) hx hb dL_law_659 (by decide) ?_
    refine z_top (show (1 : Int32) = nI 1 from rfl) ?_
    refine zL_X10_hear hC hv (by omega) hP hD hS hl.1 ⟨by show cells ≤ 638368; omega, by show slots ≤ 7187145; omega⟩ (fun q hq => List.mem_append_right _ hq) (xs (i + 1)) (xs (i + 2)) 1 (by decide) (fun  H locs  hP hD hS => ?_)
    refine lv_aload_n hx hb dL_law_666 rfl (lv_at hl 2 rfl) ?_
    refine lv_aload_n hx hb dL_law_667 rfl (lv_at hl 0 rfl) ?_
    refine lv_iload_n hx hb dL_law_668 rfl (lv_at hl 3 rfl) ?_
    refine lv_iconst (v := 1) hx hb dL_law_669 (by decide) ?_
    refine lv_iadd hx hb dL_law_670 ?_
    refine z_top (show nI i + 1 = nI (i + 1) from nI_add i 1) ?_
    refine va_sld hx hb hX hbl hbA hS (vp_in_nI (by omega) (by omega)) dL_law_671 ?_
    refine z_top (z_ld (f := xs) (a := i + 1) (by omega) rfl) ?_
    refine lv_aload_n hx hb dL_law_672 rfl (lv_at hl 0 rfl) ?_
    refine lv_iload_n hx hb dL_law_673 rfl (lv_at hl 3 rfl) ?_
    refine lv_iconst (v := 2) hx hb dL_law_674 (by decide) ?_
    refine lv_iadd hx hb dL_law_675 ?_
    refine z_top (show nI i + 2 = nI (i + 2) from nI_add i 2) ?_
    refine va_sld hx hb hX hbl hbA hS (vp_in_nI (by omega) (by omega)) dL_law_676 ?_
    refine z_top (z_ld (f := xs) (a := i + 2) (by omega) rfl) ?_
    refine lv_aload_n hx hb dL_law_677 rfl (lv_at hl 0 rfl) ?_
    refine lv_iload_n hx hb dL_law_678 rfl (lv_at hl 3 rfl) ?_
    refine lv_iconst (v := 3) hx hb dL_law_679 (by decide) ?_
    refine lv_iadd hx hb dL_law_680 ?_
    refine z_top (show nI i + 3 = nI (i + 3) from nI_add i 3) ?_
    refine va_sld hx hb hX hbl hbA hS (vp_in_nI (by omega) (by omega)) dL_law_681 ?_
    refine z_top (z_ld (f := xs) (a := i + 3) (by omega) rfl) ?_
    refine lv_if_eq (tgt := 689) hx hb dL_law_682 (by decide) (fun q => absurd q hz) (fun _ => ?_)
    refine lv_iconst (v := 1) hx hb dL_law_685 (by decide) ?_
    refine lv_goto (tgt := 690) hx hb dL_law_686 (by decide) ?_
    refine z_top (show (1 : Int32) = nI 1 from rfl) ?_
    refine zL_X11_hear hC hv (by omega) (z_swP hP) (z_swD hD) hS hl.1 ⟨by show cells ≤ 638368; omega, by show slots ≤ 7187145; omega⟩ (xs (i + 1)) (xs (i + 2)) 1 (by decide) _ (fun  H locs  hP hD hS => ?_)
    have hP := z_swP hP
    have hD := z_swD hD
    refine lv_icmp_eq (tgt := 840) hx hb dL_law_693 (by decide) (fun _ => ?_) (fun q => absurd rfl q)
    refine W.widen (k := cells + 1) (n := slots + 1) (by omega) (by omega) ?_
    exact K _ H locs ⟨pool, owh, obm, best, b1, b2, b3, b4, u_np, u_nh, u_fond, u_boys, u_learnt, u_stripes, u_qp, u_ql, u_qr, wI, nM, sS, sF, lM, sN, sv, hh, tR, tO, size, codes, lessons, limit, hard, blows, np, if zHearM np lessons nh (xs (i + 1)) (xs (i + 2)) = 2 then nh + 1 else nh, fond, boys, learnt, stripes, if zHearM np lessons nh (xs (i + 1)) (xs (i + 2)) = 2 then va_up qp nh ((xs (i + 1)).toNatClampNeg) else qp, if zHearM np lessons nh (xs (i + 1)) (xs (i + 2)) = 2 then va_up ql nh ((xs (i + 2)).toNatClampNeg) else ql, if zHearM np lessons nh (xs (i + 1)) (xs (i + 2)) = 2 then va_up qr nh 1 else qr, k_np, k_nh, k_fond, k_boys, k_learnt, k_stripes, k_qp, k_ql, k_qr, hI, pr, osz, path, kd, wt, left, row, kS, iK, zI_hear hv (xs (i + 1)) (xs (i + 2)) 1 (by decide), rfl⟩ hP hD hS

set_option maxHeartbeats 4000000 in
set_option maxRecDepth 100000 in
theorem zCase_forget {p : Program} {l : Launch} {e : Env} {s : State} {m : MethodId} {below : List Frame} {meth : Method} {c : Code} {H : Heap} {locs : List Loc} {cells slots : Nat} {Q : State → Prop} {ls : Array Slot} {D : va_G} {cI cB cP : ClassId} {bM b jj L i : Nat} {xs : Nat → Int32} {W0 : va_W} {x : Nat} {x_pg : Nat} {x_tx : Nat} {x_pr : Nat} {x_nw : Nat} {x_kp : Nat} {x_tr : Nat} {x_or : Nat} {x_bl : Nat} {g1 : Nat} {t1 : Nat} {t2 : Nat} {a1 : Nat} {a2 : Nat} {a3 : Nat} {a4 : Nat} {a5 : Nat} {a6 : Nat} {a7 : Nat} {k_a1 : Nat} {k_a2 : Nat} {k_a3 : Nat} {k_a4 : Nat} {k_a5 : Nat} {k_a6 : Nat} {k_a7 : Nat} {u_a1 : Nat} {u_a2 : Nat} {u_a3 : Nat} {u_a4 : Nat} {u_a5 : Nat} {u_a6 : Nat} {u_a7 : Nat} {q1 : Nat} {q2 : Nat} {mo : Nat} {m_hard : Nat} {m_blows : Nat} {m_stripes : Nat} {m_kd : Nat} {m_wt : Nat} {m_boys : Nat} {m_learnt : Nat} {m_fond : Nat} {m_qp : Nat} {m_ql : Nat} {m_qr : Nat} {m_codes : Nat} {m_left : Nat} {m_row : Nat} {m_sv : Nat} {m_k_fond : Nat} {m_k_stripes : Nat} {m_k_learnt : Nat} {m_k_boys : Nat} {m_k_qp : Nat} {m_k_ql : Nat} {m_k_qr : Nat} (hC : zLw p s m c D cI cB cP bM b) (hX : va_X b L xs s s.heap) (hbl : b < s.heap.size) (hL : L ≤ 256) (hi : i + 4 ≤ L) (hjj : jj ≤ 64) (hG : zGw cI cB cP x x_pg x_tx x_pr x_nw x_kp x_tr x_or x_bl g1 t1 t2 a1 a2 a3 a4 a5 a6 a7 k_a1 k_a2 k_a3 k_a4 k_a5 k_a6 k_a7 u_a1 u_a2 u_a3 u_a4 u_a5 u_a6 u_a7 q1 q2 mo m_hard m_blows m_stripes m_kd m_wt m_boys m_learnt m_fond m_qp m_ql m_qr m_codes m_left m_row m_sv m_k_fond m_k_stripes m_k_learnt m_k_boys m_k_qp m_k_ql m_k_qr jj W0) (hP : va_P D vwCl W0 H) (hD : va_D (zAl s) W0) (hS : va_S (zAl s) s.heap H locs) (hl : lv_has ls 4 [(0, .ref b), (1, .ref x), (2, .ref mo), (3, .int (nI i))]) (hc : cells + 1 ≤ 638368 ∧ slots + 1 ≤ 7187145) (K : ∀ (W1 : va_W) (H1 : Heap) (locs1 : List Loc), zGw cI cB cP x x_pg x_tx x_pr x_nw x_kp x_tr x_or x_bl g1 t1 t2 a1 a2 a3 a4 a5 a6 a7 k_a1 k_a2 k_a3 k_a4 k_a5 k_a6 k_a7 u_a1 u_a2 u_a3 u_a4 u_a5 u_a6 u_a7 q1 q2 mo m_hard m_blows m_stripes m_kd m_wt m_boys m_learnt m_fond m_qp m_ql m_qr m_codes m_left m_row m_sv m_k_fond m_k_stripes m_k_learnt m_k_boys m_k_qp m_k_ql m_k_qr (jj + 1) W1 → va_P D vwCl W1 H1 → va_D (zAl s) W1 → va_S (zAl s) s.heap H1 locs1 → W p l e room_1 s m #[Value.ref b] below meth c H1 locs1 (cells + 1) (slots + 1) Q (F0 m 840 ls [])) : W p l e room_1 s m #[Value.ref b] below meth c H locs cells slots Q (F0 m 698 ls []) := by
  obtain ⟨pool, owh, obm, best, b1, b2, b3, b4, u_np, u_nh, u_fond, u_boys, u_learnt, u_stripes, u_qp, u_ql, u_qr, wI, nM, sS, sF, lM, sN, sv, hh, tR, tO, size, codes, lessons, limit, hard, blows, np, nh, fond, boys, learnt, stripes, qp, ql, qr, k_np, k_nh, k_fond, k_boys, k_learnt, k_stripes, k_qp, k_ql, k_qr, hI, pr, osz, path, kd, wt, left, row, kS, iK, hv, rfl⟩ := hG
  obtain ⟨hx, hb, hml, hown, hts, hK, hN, hM⟩ := id hC
  have hbA : ¬ zAl s b := Nat.not_le.mpr hbl
  refine lv_aload_n hx hb dL_law_698 rfl (lv_at hl 1 rfl) ?_
  refine zL_X10_forget hC hv (by omega) hP hD hS hl.1 ⟨by show cells ≤ 638368; omega, by show slots ≤ 7187145; omega⟩ (fun  H locs  hP hD hS => ?_)
  refine lv_aload_n hx hb dL_law_702 rfl (lv_at hl 2 rfl) ?_
  refine zL_X11_forget hC hv (by omega) (z_swP hP) (z_swD hD) hS hl.1 ⟨by show cells ≤ 638368; omega, by show slots ≤ 7187145; omega⟩ _ (fun  H locs  hP hD hS => ?_)
  have hP := z_swP hP
  have hD := z_swD hD
  refine lv_icmp_eq (tgt := 840) hx hb dL_law_706 (by decide) (fun _ => ?_) (fun q => absurd rfl q)
  refine W.widen (k := cells + 1) (n := slots + 1) (by omega) (by omega) ?_
  exact K _ H locs ⟨pool, owh, obm, best, b1, b2, b3, b4, u_np, u_nh, u_fond, u_boys, u_learnt, u_stripes, u_qp, u_ql, u_qr, wI, nM, sS, sF, lM, sN, sv, hh, tR, tO, size, codes, lessons, limit, hard, blows, np, 0, fond, boys, learnt, stripes, qp, ql, qr, k_np, k_nh, k_fond, k_boys, k_learnt, k_stripes, k_qp, k_ql, k_qr, hI, pr, osz, path, kd, wt, left, row, kS, iK, zI_forget hv, rfl⟩ hP hD hS
