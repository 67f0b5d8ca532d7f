set_option maxHeartbeats 4000000 in
set_option maxRecDepth 100000 in
theorem law_loop {p : Program} {l : Launch} {e : Env} {s : State} {m : MethodId} {below : List Frame} {meth : Method} {c : Code} {D : va_G} {cI cB cP : ClassId} {bM b L : Nat} {xs : Nat → Int32} {x : Nat} {x_pg : Nat} {x_tx : Nat} {x_pr : Nat} {x_nw : Nat} {x_kp : Nat} {x_tr : Nat} {x_or : Nat} {x_bl : Nat} {g1 : Nat} {t1 : Nat} {t2 : Nat} {a1 : Nat} {a2 : Nat} {a3 : Nat} {a4 : Nat} {a5 : Nat} {a6 : Nat} {a7 : Nat} {k_a1 : Nat} {k_a2 : Nat} {k_a3 : Nat} {k_a4 : Nat} {k_a5 : Nat} {k_a6 : Nat} {k_a7 : Nat} {u_a1 : Nat} {u_a2 : Nat} {u_a3 : Nat} {u_a4 : Nat} {u_a5 : Nat} {u_a6 : Nat} {u_a7 : Nat} {q1 : Nat} {q2 : Nat} {mo : Nat} {m_hard : Nat} {m_blows : Nat} {m_stripes : Nat} {m_kd : Nat} {m_wt : Nat} {m_boys : Nat} {m_learnt : Nat} {m_fond : Nat} {m_qp : Nat} {m_ql : Nat} {m_qr : Nat} {m_codes : Nat} {m_left : Nat} {m_row : Nat} {m_sv : Nat} {m_k_fond : Nat} {m_k_stripes : Nat} {m_k_learnt : Nat} {m_k_boys : Nat} {m_k_qp : Nat} {m_k_ql : Nat} {m_k_qr : Nat} (hC : zLw p s m c D cI cB cP bM b) (hr : meth.sig.returnType = ret) (hlocks : meth.locks = false) (hX : va_X b L xs s s.heap) (hbl : b < s.heap.size) (hL : L ≤ 256) :
    ∀ (n i jj : Nat) (W0 : va_W) (H : Heap) (locs : List Loc) (ls : Array Slot), i = 4 * jj → i ≤ L → L + 1 ≤ i + n → zGw cI cB cP x x_pg x_tx x_pr x_nw x_kp x_tr x_or x_bl g1 t1 t2 a1 a2 a3 a4 a5 a6 a7 k_a1 k_a2 k_a3 k_a4 k_a5 k_a6 k_a7 u_a1 u_a2 u_a3 u_a4 u_a5 u_a6 u_a7 q1 q2 mo m_hard m_blows m_stripes m_kd m_wt m_boys m_learnt m_fond m_qp m_ql m_qr m_codes m_left m_row m_sv m_k_fond m_k_stripes m_k_learnt m_k_boys m_k_qp m_k_ql m_k_qr jj W0 → va_P D vwCl W0 H → va_D (zAl s) W0 → va_S (zAl s) s.heap H locs → lv_has ls 4 [(0, .ref b), (1, .ref x), (2, .ref mo), (3, .int (nI i))] → W p l e room_1 s m #[Value.ref b] below meth c H locs (58 + jj) (373 + jj) (lw_Z below #[Value.ref b] s) (F0 m 18 ls []) := by
  obtain ⟨hx, hb, hml, hown, hts, hK, hN, hM⟩ := id hC
  have hbA : ¬ zAl s b := Nat.not_le.mpr hbl
  intro n
  induction n with
  | zero => intro i jj W0 H locs ls h1 h2 h3; exact absurd h3 (by omega)
  | succ n ih =>
    intro i jj W0 H locs ls h1 h2 h3 hG hP hD hS hl
    refine lv_iload_n hx hb dL_law_18 rfl (lv_at hl 3 rfl) ?_
    refine lv_aload_n hx hb dL_law_19 rfl (lv_at hl 0 rfl) ?_
    refine va_slen hx hb hX hbl hbA hS dL_law_20 ?_
    refine lv_iconst (v := 4) hx hb dL_law_21 (by decide) ?_
    refine lv_isub hx hb dL_law_22 ?_
    refine lv_icmp_gt (tgt := 846) hx hb dL_law_23 (by decide) (fun q => ?_) (fun q => ?_)
    · refine lv_iconst (v := 1) hx hb dL_law_846 (by decide) ?_
      refine va_forget (fun q hq => hS.2.2 q hq) ?_
      refine W.widen (k := 638368) (n := 7187145) (by omega) (by omega) ?_
      exact lw_ret hx hb hr hlocks dL_law_847
    · have hi : i + 4 ≤ L := by
        have := (not_congr (z_slt (a := L) (b := 4) (k := i) (by omega) (by omega) (by omega))).mp q
        omega
      have K : ∀ (W1 : va_W) (H1 : Heap) (locs1 : List Loc), zGw cI cB cP x x_pg x_tx x_pr x_nw x_kp x_tr x_or x_bl g1 t1 t2 a1 a2 a3 a4 a5 a6 a7 k_a1 k_a2 k_a3 k_a4 k_a5 k_a6 k_a7 u_a1 u_a2 u_a3 u_a4 u_a5 u_a6 u_a7 q1 q2 mo m_hard m_blows m_stripes m_kd m_wt m_boys m_learnt m_fond m_qp m_ql m_qr m_codes m_left m_row m_sv m_k_fond m_k_stripes m_k_learnt m_k_boys m_k_qp m_k_ql m_k_qr (jj + 1) W1 → va_P D vwCl W1 H1 → va_D (zAl s) W1 → va_S (zAl s) s.heap H1 locs1 → W p l e room_1 s m #[Value.ref b] below meth c H1 locs1 (58 + jj + 1) (373 + jj + 1) (lw_Z below #[Value.ref b] s) (F0 m 840 ls []) := by
        intro W1 H1 locs1 hG1 hP1 hD1 hS1
        refine lv_iinc (v := nI (i + 4)) (lv' := [(3, .int (nI (i + 4))), (0, .ref b), (1, .ref x), (2, .ref mo)]) hx hb dL_law_840 hl (k := 3) rfl (nI_add i 4) (by decide) rfl (fun ls hl => ?_)
        refine lv_goto (tgt := 18) hx hb dL_law_843 (by decide) ?_
        exact ih (i + 4) (jj + 1) W1 H1 locs1 ls (by omega) hi (by omega) hG1 hP1 hD1 hS1 (lv_sub hl [1, 2, 3, 0] rfl)
      refine lv_aload_n hx hb dL_law_26 rfl (lv_at hl 0 rfl) ?_
      refine lv_iload_n hx hb dL_law_27 rfl (lv_at hl 3 rfl) ?_
      refine va_sld hx hb hX hbl hbA hS (vp_in_nI (by omega) (by omega)) dL_law_28 ?_
      refine lv_bipush (v := 31) hx hb dL_law_29 (by decide) ?_
      refine lv_iand hx hb dL_law_31 ?_
      refine lv_topi (fun sw esw => ?_)
      clear esw
      by_cases w_0 : sw = 0
      · subst w_0
        refine lv_tableIn (tgt := 144) (off := 112) hx hb dL_law_32 (by decide +kernel) (by decide +kernel) (by decide +kernel) (by decide) ?_
        exact zCase_letter hC hX hbl hL hi (by omega) hG hP hD hS hl ⟨by omega, by omega⟩ K
      by_cases w_1 : sw = 1
      · subst w_1
        refine lv_tableIn (tgt := 167) (off := 135) hx hb dL_law_32 (by decide +kernel) (by decide +kernel) (by decide +kernel) (by decide) ?_
        exact zCase_blank hC hX hbl hL hi (by omega) hG hP hD hS hl ⟨by omega, by omega⟩ K
      by_cases w_2 : sw = 2
      · subst w_2
        refine lv_tableIn (tgt := 180) (off := 148) hx hb dL_law_32 (by decide +kernel) (by decide +kernel) (by decide +kernel) (by decide) ?_
        exact zCase_fault hC hX hbl hL hi (by omega) hG hP hD hS hl ⟨by omega, by omega⟩ K
      by_cases w_3 : sw = 3
      · subst w_3
        refine lv_tableIn (tgt := 193) (off := 161) hx hb dL_law_32 (by decide +kernel) (by decide +kernel) (by decide +kernel) (by decide) ?_
        exact zCase_school hC hX hbl hL hi (by omega) hG hP hD hS hl ⟨by omega, by omega⟩ K
      by_cases w_4 : sw = 4
      · subst w_4
        refine lv_tableIn (tgt := 206) (off := 174) hx hb dL_law_32 (by decide +kernel) (by decide +kernel) (by decide +kernel) (by decide) ?_
        exact zCase_lesson hC hX hbl hL hi (by omega) hG hP hD hS hl ⟨by omega, by omega⟩ K
      by_cases w_5 : sw = 5
      · subst w_5
        refine lv_tableIn (tgt := 239) (off := 207) hx hb dL_law_32 (by decide +kernel) (by decide +kernel) (by decide +kernel) (by decide) ?_
        exact zCase_stripes hC hX hbl hL hi (by omega) hG hP hD hS hl ⟨by omega, by omega⟩ K
      by_cases w_6 : sw = 6
      · subst w_6
        refine lv_tableIn (tgt := 262) (off := 230) hx hb dL_law_32 (by decide +kernel) (by decide +kernel) (by decide +kernel) (by decide) ?_
        exact zCase_prince hC hX hbl hL hi (by omega) hG hP hD hS hl ⟨by omega, by omega⟩ K
      by_cases w_7 : sw = 7
      · subst w_7
        refine lv_tableIn (tgt := 295) (off := 263) hx hb dL_law_32 (by decide +kernel) (by decide +kernel) (by decide +kernel) (by decide) ?_
        exact zCase_about hC hX hbl hL hi (by omega) hG hP hD hS hl ⟨by omega, by omega⟩ K
      by_cases w_8 : sw = 8
      · subst w_8
        refine lv_tableIn (tgt := 328) (off := 296) hx hb dL_law_32 (by decide +kernel) (by decide +kernel) (by decide +kernel) (by decide) ?_
        exact zCase_as hC hX hbl hL hi (by omega) hG hP hD hS hl ⟨by omega, by omega⟩ K
      by_cases w_9 : sw = 9
      · subst w_9
        refine lv_tableIn (tgt := 361) (off := 329) hx hb dL_law_32 (by decide +kernel) (by decide +kernel) (by decide +kernel) (by decide) ?_
        exact zCase_give hC hX hbl hL hi (by omega) hG hP hD hS hl ⟨by omega, by omega⟩ K
      by_cases w_10 : sw = 10
      · subst w_10
        refine lv_tableIn (tgt := 394) (off := 362) hx hb dL_law_32 (by decide +kernel) (by decide +kernel) (by decide +kernel) (by decide) ?_
        exact zCase_fond hC hX hbl hL hi (by omega) hG hP hD hS hl ⟨by omega, by omega⟩ K
      by_cases w_11 : sw = 11
      · subst w_11
        refine lv_tableIn (tgt := 437) (off := 405) hx hb dL_law_32 (by decide +kernel) (by decide +kernel) (by decide +kernel) (by decide) ?_
        exact zCase_tenths hC hX hbl hL hi (by omega) hG hP hD hS hl ⟨by omega, by omega⟩ K
      by_cases w_12 : sw = 12
      · subst w_12
        refine lv_tableIn (tgt := 470) (off := 438) hx hb dL_law_32 (by decide +kernel) (by decide +kernel) (by decide +kernel) (by decide) ?_
        exact zCase_teach hC hX hbl hL hi (by omega) hG hP hD hS hl ⟨by omega, by omega⟩ K
      by_cases w_13 : sw = 13
      · subst w_13
        refine lv_tableIn (tgt := 529) (off := 497) hx hb dL_law_32 (by decide +kernel) (by decide +kernel) (by decide +kernel) (by decide) ?_
        exact zCase_order hC hX hbl hL hi (by omega) hG hP hD hS hl ⟨by omega, by omega⟩ K
      by_cases w_14 : sw = 14
      · subst w_14
        refine lv_tableIn (tgt := 563) (off := 531) hx hb dL_law_32 (by decide +kernel) (by decide +kernel) (by decide +kernel) (by decide) ?_
        exact zCase_match hC hX hbl hL hi (by omega) hG hP hD hS hl ⟨by omega, by omega⟩ K
      by_cases w_15 : sw = 15
      · subst w_15
        refine lv_tableIn (tgt := 596) (off := 564) hx hb dL_law_32 (by decide +kernel) (by decide +kernel) (by decide +kernel) (by decide) ?_
        exact zCase_faults hC hX hbl hL hi (by omega) hG hP hD hS hl ⟨by omega, by omega⟩ K
      by_cases w_16 : sw = 16
      · subst w_16
        refine lv_tableIn (tgt := 639) (off := 607) hx hb dL_law_32 (by decide +kernel) (by decide +kernel) (by decide +kernel) (by decide) ?_
        exact zCase_hear hC hX hbl hL hi (by omega) hG hP hD hS hl ⟨by omega, by omega⟩ K
      by_cases w_17 : sw = 17
      · subst w_17
        refine lv_tableIn (tgt := 698) (off := 666) hx hb dL_law_32 (by decide +kernel) (by decide +kernel) (by decide +kernel) (by decide) ?_
        exact zCase_forget hC hX hbl hL hi (by omega) hG hP hD hS hl ⟨by omega, by omega⟩ K
      by_cases w_18 : sw = 18
      · subst w_18
        refine lv_tableIn (tgt := 711) (off := 679) hx hb dL_law_32 (by decide +kernel) (by decide +kernel) (by decide +kernel) (by decide) ?_
        exact zCase_fondness hC hX hbl hL hi (by omega) hG hP hD hS hl ⟨by omega, by omega⟩ K
      by_cases w_19 : sw = 19
      · subst w_19
        refine lv_tableIn (tgt := 734) (off := 702) hx hb dL_law_32 (by decide +kernel) (by decide +kernel) (by decide +kernel) (by decide) ?_
        exact zCase_schools hC hX hbl hL hi (by omega) hG hP hD hS hl ⟨by omega, by omega⟩ K
      by_cases w_20 : sw = 20
      · subst w_20
        refine lv_tableIn (tgt := 777) (off := 745) hx hb dL_law_32 (by decide +kernel) (by decide +kernel) (by decide +kernel) (by decide) ?_
        exact zCase_image hC hX hbl hL hi (by omega) hG hP hD hS hl ⟨by omega, by omega⟩ K
      by_cases w_21 : sw = 21
      · subst w_21
        refine lv_tableIn (tgt := 790) (off := 758) hx hb dL_law_32 (by decide +kernel) (by decide +kernel) (by decide +kernel) (by decide) ?_
        exact zCase_restore hC hX hbl hL hi (by omega) hG hP hD hS hl ⟨by omega, by omega⟩ K
      by_cases w_22 : sw = 22
      · subst w_22
        refine lv_tableIn (tgt := 803) (off := 771) hx hb dL_law_32 (by decide +kernel) (by decide +kernel) (by decide +kernel) (by decide) ?_
        exact zCase_count hC hX hbl hL hi (by omega) hG hP hD hS hl ⟨by omega, by omega⟩ K
      by_cases w_23 : sw = 23
      · subst w_23
        refine lv_tableIn (tgt := 826) (off := 794) hx hb dL_law_32 (by decide +kernel) (by decide +kernel) (by decide +kernel) (by decide) ?_
        exact zCase_digest hC hX hbl hL hi (by omega) hG hP hD hS hl ⟨by omega, by omega⟩ K
      refine lv_tableOut (tgt := 840) hx hb dL_law_32 (by have e0 := z_ne (k := 0) w_0 (by omega); have e1 := z_ne (k := 1) w_1 (by omega); have e2 := z_ne (k := 2) w_2 (by omega); have e3 := z_ne (k := 3) w_3 (by omega); have e4 := z_ne (k := 4) w_4 (by omega); have e5 := z_ne (k := 5) w_5 (by omega); have e6 := z_ne (k := 6) w_6 (by omega); have e7 := z_ne (k := 7) w_7 (by omega); have e8 := z_ne (k := 8) w_8 (by omega); have e9 := z_ne (k := 9) w_9 (by omega); have e10 := z_ne (k := 10) w_10 (by omega); have e11 := z_ne (k := 11) w_11 (by omega); have e12 := z_ne (k := 12) w_12 (by omega); have e13 := z_ne (k := 13) w_13 (by omega); have e14 := z_ne (k := 14) w_14 (by omega); have e15 := z_ne (k := 15) w_15 (by omega); have e16 := z_ne (k := 16) w_16 (by omega); have e17 := z_ne (k := 17) w_17 (by omega); have e18 := z_ne (k := 18) w_18 (by omega); have e19 := z_ne (k := 19) w_19 (by omega); have e20 := z_ne (k := 20) w_20 (by omega); have e21 := z_ne (k := 21) w_21 (by omega); have e22 := z_ne (k := 22) w_22 (by omega); have e23 := z_ne (k := 23) w_23 (by omega); omega) (by decide) ?_
      refine W.widen (k := 58 + jj + 1) (n := 373 + jj + 1) (by omega) (by omega) ?_
      obtain ⟨pool, owh, obm, best, b1, b2, b3, b4, u_np, u_nh, u_fond, u_boys, u_learnt, u_stripes, u_qp, u_ql, u_qr, wI, nM, sS, sF, lM, sN, sv, hh, tR, tO, size, codes, lessons, limit, hard, blows, np, nh, fond, boys, learnt, stripes, qp, ql, qr, k_np, k_nh, k_fond, k_boys, k_learnt, k_stripes, k_qp, k_ql, k_qr, hI, pr, osz, path, kd, wt, left, row, kS, iK, hv, rfl⟩ := hG
      exact K _ H locs ⟨pool, owh, obm, best, b1, b2, b3, b4, u_np, u_nh, u_fond, u_boys, u_learnt, u_stripes, u_qp, u_ql, u_qr, wI, nM, sS, sF, lM, sN, sv, hh, tR, tO, size, codes, lessons, limit, hard, blows, np, nh, fond, boys, learnt, stripes, qp, ql, qr, k_np, k_nh, k_fond, k_boys, k_learnt, k_stripes, k_qp, k_ql, k_qr, hI, pr, osz, path, kd, wt, left, row, kS, iK, zInv_next hv, rfl⟩ hP hD hS
