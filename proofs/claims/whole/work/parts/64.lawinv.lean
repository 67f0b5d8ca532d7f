theorem z_num {n : Int32} {np : Nat} (h : ¬ (n < 0 ∨ ¬ n < nI np)) (hnp : np ≤ 100) : n.toNatClampNeg < np := by
  have h0 : ¬ n < 0 := fun q => h (Or.inl q)
  have h1 : n < nI np := by
    by_cases q : n < nI np
    · exact q
    · exact absurd (Or.inr q) h
  obtain ⟨k, hk, rfl⟩ := z_natlt h0 h1 (by omega)
  rw [nI_clamp (by omega)]; exact hk
theorem z_boy {b : Int32} (h : ¬ ¬ (¬ b < 0 ∧ b < 3)) : b.toNatClampNeg < 3 := by
  have h2 : ¬ b < 0 ∧ b < 3 := by
    by_cases q : (¬ b < 0 ∧ b < 3)
    · exact q
    · exact absurd q h
  obtain ⟨k, hk, rfl⟩ := z_natlt (n := 3) h2.1 h2.2 (by omega)
  rw [nI_clamp (by omega)]; exact hk
theorem zInv_next {jj : Nat} {pool : va_W} {tR : Nat} {tO : Nat} {size : Nat} {codes : Nat → Nat} {lessons : Nat} {limit : Nat} {hard : Nat → Nat} {blows : Nat → Nat} {np : Nat} {nh : Nat} {fond : Nat → Nat} {boys : Nat → Nat} {learnt : Nat → Nat} {stripes : Nat → Int32} {qp : Nat → Nat} {ql : Nat → Nat} {qr : Nat → Nat} {k_np : Nat} {k_nh : Nat} {k_fond : Nat → Nat} {k_boys : Nat → Nat} {k_learnt : Nat → Nat} {k_stripes : Nat → Int32} {k_qp : Nat → Nat} {k_ql : Nat → Nat} {k_qr : Nat → Nat} {hI : Nat} {pr : Nat → Option Nat} {osz : Nat} {path : Nat → Nat} {kd : Nat → Nat} {wt : Nat → Nat} {left : Nat → Nat} {row : Nat → Nat} {kS : Nat} {iK : Int32} (hv : zInv jj pool tR tO size codes lessons limit hard blows np nh fond boys learnt stripes qp ql qr k_np k_nh k_fond k_boys k_learnt k_stripes k_qp k_ql k_qr hI pr osz path kd wt left row kS iK) : zInv (jj + 1) pool tR tO size codes lessons limit hard blows np nh fond boys learnt stripes qp ql qr k_np k_nh k_fond k_boys k_learnt k_stripes k_qp k_ql k_qr hI pr osz path kd wt left row kS iK := by
  obtain ⟨hnp, hls, hha, hbl, hb0, hfo, hby, hle, hqp, hql, hqr, hco, hsz, hnh, hkd, hwt, hnl, hpool, hpt, hosz, htO, hlf, hrw, htR, hksR, hhI, hIk, hkn, hknp, hknh, hkfo, hkby, hkle, hkqp, hkql, hkqr⟩ := hv
  exact ⟨hnp, hls, hha, hbl, hb0, hfo, hby, hle, hqp, hql, hqr, hco, hsz, hnh, hkd, hwt, hnl, hpool, hpt, hosz, htO, hlf, hrw, Nat.le_succ_of_le htR, hksR, hhI, hIk, hkn, hknp, hknh, hkfo, hkby, hkle, hkqp, hkql, hkqr⟩

theorem zI_letter {jj : Nat} {pool : va_W} {tR : Nat} {tO : Nat} {size : Nat} {codes : Nat → Nat} {lessons : Nat} {limit : Nat} {hard : Nat → Nat} {blows : Nat → Nat} {np : Nat} {nh : Nat} {fond : Nat → Nat} {boys : Nat → Nat} {learnt : Nat → Nat} {stripes : Nat → Int32} {qp : Nat → Nat} {ql : Nat → Nat} {qr : Nat → Nat} {k_np : Nat} {k_nh : Nat} {k_fond : Nat → Nat} {k_boys : Nat → Nat} {k_learnt : Nat → Nat} {k_stripes : Nat → Int32} {k_qp : Nat → Nat} {k_ql : Nat → Nat} {k_qr : Nat → Nat} {hI : Nat} {pr : Nat → Option Nat} {osz : Nat} {path : Nat → Nat} {kd : Nat → Nat} {wt : Nat → Nat} {left : Nat → Nat} {row : Nat → Nat} {kS : Nat} {iK : Int32} (hv : zInv jj pool tR tO size codes lessons limit hard blows np nh fond boys learnt stripes qp ql qr k_np k_nh k_fond k_boys k_learnt k_stripes k_qp k_ql k_qr hI pr osz path kd wt left row kS iK) (v1 : Int32)  : zInv (jj + 1) pool tR tO (zLetS size v1) (zLetC codes size v1) lessons limit hard blows np nh fond boys learnt stripes qp ql qr k_np k_nh k_fond k_boys k_learnt k_stripes k_qp k_ql k_qr hI pr osz path kd wt left row kS iK := by
  obtain ⟨hnp, hls, hha, hbl, hb0, hfo, hby, hle, hqp, hql, hqr, hco, hsz, hnh, hkd, hwt, hnl, hpool, hpt, hosz, htO, hlf, hrw, htR, hksR, hhI, hIk, hkn, hknp, hknh, hkfo, hkby, hkle, hkqp, hkql, hkqr⟩ := hv
  refine ⟨hnp, hls, hha, hbl, hb0, hfo, hby, hle, hqp, hql, hqr, ?_, ?_, hnh, hkd, hwt, hnl, hpool, hpt, hosz, htO, hlf, hrw, Nat.le_succ_of_le htR, hksR, hhI, hIk, hkn, hknp, hknh, hkfo, hkby, hkle, hkqp, hkql, hkqr⟩
  · intro i
    unfold zLetC
    split
    · exact hco i
    · next h =>
      obtain ⟨k, h1, h2, rfl⟩ := z_code (fun q => h (Or.inl (Or.inl q))) (fun q => h (Or.inl (Or.inr q)))
      rw [nI_clamp (by omega)]
      exact z_vaL hco h2 i
  · unfold zLetS
    split
    · exact hsz
    · next h =>
      have : ¬ 18 ≤ size := fun q => h (Or.inr q)
      omega

theorem zI_blank {jj : Nat} {pool : va_W} {tR : Nat} {tO : Nat} {size : Nat} {codes : Nat → Nat} {lessons : Nat} {limit : Nat} {hard : Nat → Nat} {blows : Nat → Nat} {np : Nat} {nh : Nat} {fond : Nat → Nat} {boys : Nat → Nat} {learnt : Nat → Nat} {stripes : Nat → Int32} {qp : Nat → Nat} {ql : Nat → Nat} {qr : Nat → Nat} {k_np : Nat} {k_nh : Nat} {k_fond : Nat → Nat} {k_boys : Nat → Nat} {k_learnt : Nat → Nat} {k_stripes : Nat → Int32} {k_qp : Nat → Nat} {k_ql : Nat → Nat} {k_qr : Nat → Nat} {hI : Nat} {pr : Nat → Option Nat} {osz : Nat} {path : Nat → Nat} {kd : Nat → Nat} {wt : Nat → Nat} {left : Nat → Nat} {row : Nat → Nat} {kS : Nat} {iK : Int32} (hv : zInv jj pool tR tO size codes lessons limit hard blows np nh fond boys learnt stripes qp ql qr k_np k_nh k_fond k_boys k_learnt k_stripes k_qp k_ql k_qr hI pr osz path kd wt left row kS iK)   : zInv (jj + 1) pool tR tO 0 codes lessons limit hard blows np nh fond boys learnt stripes qp ql qr k_np k_nh k_fond k_boys k_learnt k_stripes k_qp k_ql k_qr hI pr osz path kd wt left row kS iK := by
  obtain ⟨hnp, hls, hha, hbl, hb0, hfo, hby, hle, hqp, hql, hqr, hco, hsz, hnh, hkd, hwt, hnl, hpool, hpt, hosz, htO, hlf, hrw, htR, hksR, hhI, hIk, hkn, hknp, hknh, hkfo, hkby, hkle, hkqp, hkql, hkqr⟩ := hv
  exact ⟨hnp, hls, hha, hbl, hb0, hfo, hby, hle, hqp, hql, hqr, hco, Nat.zero_le _, hnh, hkd, hwt, hnl, hpool, hpt, hosz, htO, hlf, hrw, Nat.le_succ_of_le htR, hksR, hhI, hIk, hkn, hknp, hknh, hkfo, hkby, hkle, hkqp, hkql, hkqr⟩

theorem zI_school {jj : Nat} {pool : va_W} {tR : Nat} {tO : Nat} {size : Nat} {codes : Nat → Nat} {lessons : Nat} {limit : Nat} {hard : Nat → Nat} {blows : Nat → Nat} {np : Nat} {nh : Nat} {fond : Nat → Nat} {boys : Nat → Nat} {learnt : Nat → Nat} {stripes : Nat → Int32} {qp : Nat → Nat} {ql : Nat → Nat} {qr : Nat → Nat} {k_np : Nat} {k_nh : Nat} {k_fond : Nat → Nat} {k_boys : Nat → Nat} {k_learnt : Nat → Nat} {k_stripes : Nat → Int32} {k_qp : Nat → Nat} {k_ql : Nat → Nat} {k_qr : Nat → Nat} {hI : Nat} {pr : Nat → Option Nat} {osz : Nat} {path : Nat → Nat} {kd : Nat → Nat} {wt : Nat → Nat} {left : Nat → Nat} {row : Nat → Nat} {kS : Nat} {iK : Int32} (hv : zInv jj pool tR tO size codes lessons limit hard blows np nh fond boys learnt stripes qp ql qr k_np k_nh k_fond k_boys k_learnt k_stripes k_qp k_ql k_qr hI pr osz path kd wt left row kS iK)   : zInv (jj + 1) pool (if zWholeB codes size = true then tR + 1 else tR) tO (if zWholeB codes size = true then 0 else size) codes (if zWholeB codes size = true then size / 3 else lessons) (if zWholeB codes size = true then codes (size - 1) - 48 else limit) (if zWholeB codes size = true then zMix (size / 3) (fun q_ => codes (3 * q_) - 48) hard else hard) (if zWholeB codes size = true then zMix (size / 3) (fun q_ => codes (3 * q_ + 1) - 48) blows else blows) (if zWholeB codes size = true then 0 else np) (if zWholeB codes size = true then 0 else nh) fond boys learnt (if zWholeB codes size = true then (fun _ => 0) else stripes) qp ql qr k_np k_nh k_fond k_boys k_learnt k_stripes k_qp k_ql k_qr (if zWholeB codes size = true then 0 else hI) pr osz path kd wt left row kS iK := by
  obtain ⟨hnp, hls, hha, hbl, hb0, hfo, hby, hle, hqp, hql, hqr, hco, hsz, hnh, hkd, hwt, hnl, hpool, hpt, hosz, htO, hlf, hrw, htR, hksR, hhI, hIk, hkn, hknp, hknh, hkfo, hkby, hkle, hkqp, hkql, hkqr⟩ := hv
  by_cases hW : zWholeB codes size = true
  · obtain ⟨f1, f2, f3, f4, f5, f6⟩ := zWhole_facts (zWholeB_iff.mp hW)
    unfold zInv
    simp only [if_pos hW]
    refine ⟨Nat.zero_le _, by omega, ?_, ?_, ?_, hfo, hby, hle, hqp, hql, hqr, hco, Nat.zero_le _, Nat.zero_le _, hkd, hwt, fun h => absurd h (Nat.lt_irrefl 0), fun p hp => absurd hp (Nat.not_lt_zero p), hpt, hosz, htO, hlf, hrw, by omega, by omega, by omega, (by constructor; (intro _; exact Or.inr (by omega)); (intro _; first | rfl | trivial)), fun h => absurd rfl h, hknp, hknh, hkfo, hkby, hkle, hkqp, hkql, hkqr⟩
    · intro i
      unfold zMix
      split
      · next h => have := f4 i h; show codes (3 * i) - 48 ≤ 9; omega
      · exact hha i
    · intro i
      unfold zMix
      split
      · next h => have := f4 i h; show codes (3 * i + 1) - 48 ≤ 9; omega
      · exact hbl i
    · intro i hi
      unfold zMix
      rw [if_pos hi]
      have := f4 i hi
      show 0 < codes (3 * i + 1) - 48
      omega
  · unfold zInv
    simp only [if_neg hW]
    exact ⟨hnp, hls, hha, hbl, hb0, hfo, hby, hle, hqp, hql, hqr, hco, hsz, hnh, hkd, hwt, hnl, hpool, hpt, hosz, htO, hlf, hrw, Nat.le_succ_of_le htR, hksR, hhI, hIk, hkn, hknp, hknh, hkfo, hkby, hkle, hkqp, hkql, hkqr⟩

theorem z_prM3 {lessons np : Nat} {k w : Int32} (h : zPrM lessons np k w = 3) : 0 < lessons ∧ np < 3 ∧ k.toNatClampNeg < 5 ∧ w.toNatClampNeg ≤ 9 ∧ nI w.toNatClampNeg = w := by
  unfold zPrM at h
  split at h
  · cases h
  · next h1 =>
    split at h
    · cases h
    · next h2 =>
      split at h
      · cases h
      · next h3 =>
        have hk : ¬ k < 0 ∧ k ≤ 4 := by
          by_cases q : (¬ k < 0 ∧ k ≤ 4)
          · exact q
          · exact absurd (Or.inl q) h1
        obtain ⟨k', hk1, rfl⟩ := z_natle hk.1 (n := 4) (Int32.not_lt.mpr hk.2) (by omega)
        obtain ⟨w', hw1, rfl⟩ := z_natle (fun q => h1 (Or.inr (Or.inl q))) (n := 9) (fun q => h1 (Or.inr (Or.inr q))) (by omega)
        rw [nI_clamp (by omega), nI_clamp (by omega)]
        exact ⟨by omega, by omega, by omega, hw1, rfl⟩

theorem zI_prince {jj : Nat} {pool : va_W} {tR : Nat} {tO : Nat} {size : Nat} {codes : Nat → Nat} {lessons : Nat} {limit : Nat} {hard : Nat → Nat} {blows : Nat → Nat} {np : Nat} {nh : Nat} {fond : Nat → Nat} {boys : Nat → Nat} {learnt : Nat → Nat} {stripes : Nat → Int32} {qp : Nat → Nat} {ql : Nat → Nat} {qr : Nat → Nat} {k_np : Nat} {k_nh : Nat} {k_fond : Nat → Nat} {k_boys : Nat → Nat} {k_learnt : Nat → Nat} {k_stripes : Nat → Int32} {k_qp : Nat → Nat} {k_ql : Nat → Nat} {k_qr : Nat → Nat} {hI : Nat} {pr : Nat → Option Nat} {osz : Nat} {path : Nat → Nat} {kd : Nat → Nat} {wt : Nat → Nat} {left : Nat → Nat} {row : Nat → Nat} {kS : Nat} {iK : Int32} (hv : zInv jj pool tR tO size codes lessons limit hard blows np nh fond boys learnt stripes qp ql qr k_np k_nh k_fond k_boys k_learnt k_stripes k_qp k_ql k_qr hI pr osz path kd wt left row kS iK) (v1 : Int32) (v2 : Int32) {z_u_pr : Nat → Option Nat} {z_u_new : va_W} (hu1 : zPrM lessons np v1 v2 ≠ 3 → z_u_pr = pr ∧ z_u_new = []) (hu2 : zPrM lessons np v1 v2 = 3 → ∃ q : Nat, z_u_pr = va_up pr np (some q) ∧ z_u_new = [(q, .inr (zKi v1.toNatClampNeg, [.int v2]))]) : zInv (jj + 1) (pool ++ z_u_new) tR tO size codes lessons limit hard blows (if zPrM lessons np v1 v2 = 3 then np + 1 else np) nh (if zPrM lessons np v1 v2 = 3 then zFive fond np 3 else fond) (if zPrM lessons np v1 v2 = 3 then va_up boys np np else boys) (if zPrM lessons np v1 v2 = 3 then va_up learnt np 0 else learnt) stripes qp ql qr k_np k_nh k_fond k_boys k_learnt k_stripes k_qp k_ql k_qr hI z_u_pr osz path (if zPrM lessons np v1 v2 = 3 then va_up kd np v1.toNatClampNeg else kd) (if zPrM lessons np v1 v2 = 3 then va_up wt np v2.toNatClampNeg else wt) left row kS iK := by
  obtain ⟨hnp, hls, hha, hbl, hb0, hfo, hby, hle, hqp, hql, hqr, hco, hsz, hnh, hkd, hwt, hnl, hpool, hpt, hosz, htO, hlf, hrw, htR, hksR, hhI, hIk, hkn, hknp, hknh, hkfo, hkby, hkle, hkqp, hkql, hkqr⟩ := hv
  by_cases hM : zPrM lessons np v1 v2 = 3
  · obtain ⟨q, rfl, rfl⟩ := hu2 hM
    obtain ⟨f1, f2, f3, f4, f5⟩ := z_prM3 hM
    unfold zInv
    simp only [if_pos hM]
    refine ⟨by omega, hls, hha, hbl, hb0, ?_, z_vaL hby (by omega), z_vaL hle (by omega), hqp, hql, hqr, hco, hsz, hnh, z_vaL hkd f3, z_vaB hwt f4, fun _ => f1, ?_, hpt, hosz, htO, hlf, hrw, Nat.le_succ_of_le htR, hksR, hhI, hIk, ?_, hknp, hknh, hkfo, hkby, hkle, hkqp, hkql, hkqr⟩
    · intro i
      unfold zFive
      split
      · omega
      · exact hfo i
    · intro p hp
      by_cases e : p = np
      · subst e
        refine ⟨q, by simp [va_up], List.mem_append_right _ ?_⟩
        rw [z_vaS, z_vaS, f5]
        exact List.mem_cons_self
      · obtain ⟨a, h1, h2⟩ := hpool p (by omega)
        refine ⟨a, by simp only [va_up, if_neg e]; exact h1, List.mem_append_left _ ?_⟩
        simp only [va_up, if_neg e]; exact h2
    · intro h
      obtain ⟨g1, g2⟩ := hkn h
      exact ⟨by omega, g2⟩
  · obtain ⟨rfl, rfl⟩ := hu1 hM
    unfold zInv
    simp only [if_neg hM, List.append_nil]
    exact ⟨hnp, hls, hha, hbl, hb0, hfo, hby, hle, hqp, hql, hqr, hco, hsz, hnh, hkd, hwt, hnl, hpool, hpt, hosz, htO, hlf, hrw, Nat.le_succ_of_le htR, hksR, hhI, hIk, hkn, hknp, hknh, hkfo, hkby, hkle, hkqp, hkql, hkqr⟩

theorem zI_give {jj : Nat} {pool : va_W} {tR : Nat} {tO : Nat} {size : Nat} {codes : Nat → Nat} {lessons : Nat} {limit : Nat} {hard : Nat → Nat} {blows : Nat → Nat} {np : Nat} {nh : Nat} {fond : Nat → Nat} {boys : Nat → Nat} {learnt : Nat → Nat} {stripes : Nat → Int32} {qp : Nat → Nat} {ql : Nat → Nat} {qr : Nat → Nat} {k_np : Nat} {k_nh : Nat} {k_fond : Nat → Nat} {k_boys : Nat → Nat} {k_learnt : Nat → Nat} {k_stripes : Nat → Int32} {k_qp : Nat → Nat} {k_ql : Nat → Nat} {k_qr : Nat → Nat} {hI : Nat} {pr : Nat → Option Nat} {osz : Nat} {path : Nat → Nat} {kd : Nat → Nat} {wt : Nat → Nat} {left : Nat → Nat} {row : Nat → Nat} {kS : Nat} {iK : Int32} (hv : zInv jj pool tR tO size codes lessons limit hard blows np nh fond boys learnt stripes qp ql qr k_np k_nh k_fond k_boys k_learnt k_stripes k_qp k_ql k_qr hI pr osz path kd wt left row kS iK) (v1 : Int32) (v2 : Int32)  : zInv (jj + 1) pool tR tO size codes lessons limit hard blows np nh fond (zGiveB np boys v1 v2) learnt stripes qp ql qr k_np k_nh k_fond k_boys k_learnt k_stripes k_qp k_ql k_qr hI pr osz path kd wt left row kS iK := by
  obtain ⟨hnp, hls, hha, hbl, hb0, hfo, hby, hle, hqp, hql, hqr, hco, hsz, hnh, hkd, hwt, hnl, hpool, hpt, hosz, htO, hlf, hrw, htR, hksR, hhI, hIk, hkn, hknp, hknh, hkfo, hkby, hkle, hkqp, hkql, hkqr⟩ := hv
  refine ⟨hnp, hls, hha, hbl, hb0, hfo, ?_, hle, hqp, hql, hqr, hco, hsz, hnh, hkd, hwt, hnl, hpool, hpt, hosz, htO, hlf, hrw, Nat.le_succ_of_le htR, hksR, hhI, hIk, hkn, hknp, hknh, hkfo, hkby, hkle, hkqp, hkql, hkqr⟩
  intro i
  unfold zGiveB
  split
  · exact hby i
  · next h => exact z_vaL hby (z_boy (fun q => h (Or.inr q))) i

theorem zI_fond {jj : Nat} {pool : va_W} {tR : Nat} {tO : Nat} {size : Nat} {codes : Nat → Nat} {lessons : Nat} {limit : Nat} {hard : Nat → Nat} {blows : Nat → Nat} {np : Nat} {nh : Nat} {fond : Nat → Nat} {boys : Nat → Nat} {learnt : Nat → Nat} {stripes : Nat → Int32} {qp : Nat → Nat} {ql : Nat → Nat} {qr : Nat → Nat} {k_np : Nat} {k_nh : Nat} {k_fond : Nat → Nat} {k_boys : Nat → Nat} {k_learnt : Nat → Nat} {k_stripes : Nat → Int32} {k_qp : Nat → Nat} {k_ql : Nat → Nat} {k_qr : Nat → Nat} {hI : Nat} {pr : Nat → Option Nat} {osz : Nat} {path : Nat → Nat} {kd : Nat → Nat} {wt : Nat → Nat} {left : Nat → Nat} {row : Nat → Nat} {kS : Nat} {iK : Int32} (hv : zInv jj pool tR tO size codes lessons limit hard blows np nh fond boys learnt stripes qp ql qr k_np k_nh k_fond k_boys k_learnt k_stripes k_qp k_ql k_qr hI pr osz path kd wt left row kS iK) (v1 : Int32) (v2 : Int32) (v3 : Int32)  : zInv (jj + 1) pool tR tO size codes lessons limit hard blows np nh (zFondF np fond v1 v2 v3) boys learnt stripes qp ql qr k_np k_nh k_fond k_boys k_learnt k_stripes k_qp k_ql k_qr hI pr osz path kd wt left row kS iK := by
  obtain ⟨hnp, hls, hha, hbl, hb0, hfo, hby, hle, hqp, hql, hqr, hco, hsz, hnh, hkd, hwt, hnl, hpool, hpt, hosz, htO, hlf, hrw, htR, hksR, hhI, hIk, hkn, hknp, hknh, hkfo, hkby, hkle, hkqp, hkql, hkqr⟩ := hv
  refine ⟨hnp, hls, hha, hbl, hb0, ?_, hby, hle, hqp, hql, hqr, hco, hsz, hnh, hkd, hwt, hnl, hpool, hpt, hosz, htO, hlf, hrw, Nat.le_succ_of_le htR, hksR, hhI, hIk, hkn, hknp, hknh, hkfo, hkby, hkle, hkqp, hkql, hkqr⟩
  intro i
  unfold zFondF
  split
  · next h =>
    unfold zFondM at h
    split at h
    · cases h
    · split at h
      · cases h
      · next h1 h2 =>
        obtain ⟨k, hk, rfl⟩ := z_natle (fun q => h2 (Or.inl q)) (n := 9) (fun q => h2 (Or.inr q)) (by omega)
        rw [nI_clamp (by omega)]
        exact z_vaB hfo hk i
  · exact hfo i

theorem zI_teach {jj : Nat} {pool : va_W} {tR : Nat} {tO : Nat} {size : Nat} {codes : Nat → Nat} {lessons : Nat} {limit : Nat} {hard : Nat → Nat} {blows : Nat → Nat} {np : Nat} {nh : Nat} {fond : Nat → Nat} {boys : Nat → Nat} {learnt : Nat → Nat} {stripes : Nat → Int32} {qp : Nat → Nat} {ql : Nat → Nat} {qr : Nat → Nat} {k_np : Nat} {k_nh : Nat} {k_fond : Nat → Nat} {k_boys : Nat → Nat} {k_learnt : Nat → Nat} {k_stripes : Nat → Int32} {k_qp : Nat → Nat} {k_ql : Nat → Nat} {k_qr : Nat → Nat} {hI : Nat} {pr : Nat → Option Nat} {osz : Nat} {path : Nat → Nat} {kd : Nat → Nat} {wt : Nat → Nat} {left : Nat → Nat} {row : Nat → Nat} {kS : Nat} {iK : Int32} (hv : zInv jj pool tR tO size codes lessons limit hard blows np nh fond boys learnt stripes qp ql qr k_np k_nh k_fond k_boys k_learnt k_stripes k_qp k_ql k_qr hI pr osz path kd wt left row kS iK) (v1 : Int32) (v2 : Int32) (g : Nat)  : zInv (jj + 1) pool tR tO size codes lessons limit hard blows np nh (if zTm np lessons kd wt fond boys hard learnt v1 v2 g = 2 then zSFond g (v1.toNatClampNeg) (v2.toNatClampNeg) blows limit boys stripes fond else fond) boys (if zTm np lessons kd wt fond boys hard learnt v1 v2 g = 2 then zSLe g (v1.toNatClampNeg) (v2.toNatClampNeg) learnt else learnt) (if zTm np lessons kd wt fond boys hard learnt v1 v2 g = 2 then zSStr g (v1.toNatClampNeg) (v2.toNatClampNeg) blows boys stripes else stripes) qp ql qr k_np k_nh k_fond k_boys k_learnt k_stripes k_qp k_ql k_qr hI pr osz path kd wt left row kS iK := by
  obtain ⟨hnp, hls, hha, hbl, hb0, hfo, hby, hle, hqp, hql, hqr, hco, hsz, hnh, hkd, hwt, hnl, hpool, hpt, hosz, htO, hlf, hrw, htR, hksR, hhI, hIk, hkn, hknp, hknh, hkfo, hkby, hkle, hkqp, hkql, hkqr⟩ := hv
  by_cases hM : zTm np lessons kd wt fond boys hard learnt v1 v2 g = 2
  · have hl5 : v2.toNatClampNeg < 5 := by
      unfold zTm at hM
      split at hM
      · cases hM
      · next h => exact Nat.lt_of_lt_of_le (z_num (fun q => h (Or.inr q)) (by omega)) hls
    unfold zInv
    simp only [if_pos hM]
    exact ⟨hnp, hls, hha, hbl, hb0, zSFond_le hfo, hby, zSLe_lt hl5 hle, hqp, hql, hqr, hco, hsz, hnh, hkd, hwt, hnl, hpool, hpt, hosz, htO, hlf, hrw, Nat.le_succ_of_le htR, hksR, hhI, hIk, hkn, hknp, hknh, hkfo, hkby, hkle, hkqp, hkql, hkqr⟩
  · unfold zInv
    simp only [if_neg hM]
    exact ⟨hnp, hls, hha, hbl, hb0, hfo, hby, hle, hqp, hql, hqr, hco, hsz, hnh, hkd, hwt, hnl, hpool, hpt, hosz, htO, hlf, hrw, Nat.le_succ_of_le htR, hksR, hhI, hIk, hkn, hknp, hknh, hkfo, hkby, hkle, hkqp, hkql, hkqr⟩

theorem zI_order {jj : Nat} {pool : va_W} {tR : Nat} {tO : Nat} {size : Nat} {codes : Nat → Nat} {lessons : Nat} {limit : Nat} {hard : Nat → Nat} {blows : Nat → Nat} {np : Nat} {nh : Nat} {fond : Nat → Nat} {boys : Nat → Nat} {learnt : Nat → Nat} {stripes : Nat → Int32} {qp : Nat → Nat} {ql : Nat → Nat} {qr : Nat → Nat} {k_np : Nat} {k_nh : Nat} {k_fond : Nat → Nat} {k_boys : Nat → Nat} {k_learnt : Nat → Nat} {k_stripes : Nat → Int32} {k_qp : Nat → Nat} {k_ql : Nat → Nat} {k_qr : Nat → Nat} {hI : Nat} {pr : Nat → Option Nat} {osz : Nat} {path : Nat → Nat} {kd : Nat → Nat} {wt : Nat → Nat} {left : Nat → Nat} {row : Nat → Nat} {kS : Nat} {iK : Int32} (hv : zInv jj pool tR tO size codes lessons limit hard blows np nh fond boys learnt stripes qp ql qr k_np k_nh k_fond k_boys k_learnt k_stripes k_qp k_ql k_qr hI pr osz path kd wt left row kS iK) (v1 : Int32) (v2 : Int32) {z_u_sz : Nat} {z_u_path z_u_left z_u_row : Nat → Nat} (hu1 : ∀ j, z_u_path j < 5) (hu2 : z_u_sz ≤ 5) (hu3 : ∀ j, z_u_left j < 5) (hu4 : ∀ j, z_u_row j < 5) : zInv (jj + 1) pool tR (if zOrdM np tO v1 v2 = 3 then tO + 1 else tO) size codes lessons limit hard blows np nh fond boys learnt stripes qp ql qr k_np k_nh k_fond k_boys k_learnt k_stripes k_qp k_ql k_qr hI pr z_u_sz z_u_path kd wt z_u_left z_u_row kS iK := by
  obtain ⟨hnp, hls, hha, hbl, hb0, hfo, hby, hle, hqp, hql, hqr, hco, hsz, hnh, hkd, hwt, hnl, hpool, hpt, hosz, htO, hlf, hrw, htR, hksR, hhI, hIk, hkn, hknp, hknh, hkfo, hkby, hkle, hkqp, hkql, hkqr⟩ := hv
  refine ⟨hnp, hls, hha, hbl, hb0, hfo, hby, hle, hqp, hql, hqr, hco, hsz, hnh, hkd, hwt, hnl, hpool, hu1, hu2, ?_, hu3, hu4, Nat.le_succ_of_le htR, hksR, hhI, hIk, hkn, hknp, hknh, hkfo, hkby, hkle, hkqp, hkql, hkqr⟩
  split
  · next h =>
    unfold zOrdM at h
    split at h
    · cases h
    · split at h
      · cases h
      · split at h
        · cases h
        · omega
  · exact htO

theorem zI_faults {jj : Nat} {pool : va_W} {tR : Nat} {tO : Nat} {size : Nat} {codes : Nat → Nat} {lessons : Nat} {limit : Nat} {hard : Nat → Nat} {blows : Nat → Nat} {np : Nat} {nh : Nat} {fond : Nat → Nat} {boys : Nat → Nat} {learnt : Nat → Nat} {stripes : Nat → Int32} {qp : Nat → Nat} {ql : Nat → Nat} {qr : Nat → Nat} {k_np : Nat} {k_nh : Nat} {k_fond : Nat → Nat} {k_boys : Nat → Nat} {k_learnt : Nat → Nat} {k_stripes : Nat → Int32} {k_qp : Nat → Nat} {k_ql : Nat → Nat} {k_qr : Nat → Nat} {hI : Nat} {pr : Nat → Option Nat} {osz : Nat} {path : Nat → Nat} {kd : Nat → Nat} {wt : Nat → Nat} {left : Nat → Nat} {row : Nat → Nat} {kS : Nat} {iK : Int32} (hv : zInv jj pool tR tO size codes lessons limit hard blows np nh fond boys learnt stripes qp ql qr k_np k_nh k_fond k_boys k_learnt k_stripes k_qp k_ql k_qr hI pr osz path kd wt left row kS iK)  {z_u_left : Nat → Nat} (hu1 : ∀ j, z_u_left j < 5) : zInv (jj + 1) pool tR tO size codes lessons limit hard blows np nh fond boys learnt stripes qp ql qr k_np k_nh k_fond k_boys k_learnt k_stripes k_qp k_ql k_qr hI pr osz path kd wt z_u_left row kS iK := by
  obtain ⟨hnp, hls, hha, hbl, hb0, hfo, hby, hle, hqp, hql, hqr, hco, hsz, hnh, hkd, hwt, hnl, hpool, hpt, hosz, htO, hlf, hrw, htR, hksR, hhI, hIk, hkn, hknp, hknh, hkfo, hkby, hkle, hkqp, hkql, hkqr⟩ := hv
  exact ⟨hnp, hls, hha, hbl, hb0, hfo, hby, hle, hqp, hql, hqr, hco, hsz, hnh, hkd, hwt, hnl, hpool, hpt, hosz, htO, hu1, hrw, Nat.le_succ_of_le htR, hksR, hhI, hIk, hkn, hknp, hknh, hkfo, hkby, hkle, hkqp, hkql, hkqr⟩

theorem zI_hear {jj : Nat} {pool : va_W} {tR : Nat} {tO : Nat} {size : Nat} {codes : Nat → Nat} {lessons : Nat} {limit : Nat} {hard : Nat → Nat} {blows : Nat → Nat} {np : Nat} {nh : Nat} {fond : Nat → Nat} {boys : Nat → Nat} {learnt : Nat → Nat} {stripes : Nat → Int32} {qp : Nat → Nat} {ql : Nat → Nat} {qr : Nat → Nat} {k_np : Nat} {k_nh : Nat} {k_fond : Nat → Nat} {k_boys : Nat → Nat} {k_learnt : Nat → Nat} {k_stripes : Nat → Int32} {k_qp : Nat → Nat} {k_ql : Nat → Nat} {k_qr : Nat → Nat} {hI : Nat} {pr : Nat → Option Nat} {osz : Nat} {path : Nat → Nat} {kd : Nat → Nat} {wt : Nat → Nat} {left : Nat → Nat} {row : Nat → Nat} {kS : Nat} {iK : Int32} (hv : zInv jj pool tR tO size codes lessons limit hard blows np nh fond boys learnt stripes qp ql qr k_np k_nh k_fond k_boys k_learnt k_stripes k_qp k_ql k_qr hI pr osz path kd wt left row kS iK) (v1 : Int32) (v2 : Int32) (g : Nat) (hg : g < 2)  : zInv (jj + 1) pool tR tO size codes lessons limit hard blows np (if zHearM np lessons nh v1 v2 = 2 then nh + 1 else nh) fond boys learnt stripes (if zHearM np lessons nh v1 v2 = 2 then va_up qp nh (v1.toNatClampNeg) else qp) (if zHearM np lessons nh v1 v2 = 2 then va_up ql nh (v2.toNatClampNeg) else ql) (if zHearM np lessons nh v1 v2 = 2 then va_up qr nh g else qr) k_np k_nh k_fond k_boys k_learnt k_stripes k_qp k_ql k_qr hI pr osz path kd wt left row kS iK := by
  obtain ⟨hnp, hls, hha, hbl, hb0, hfo, hby, hle, hqp, hql, hqr, hco, hsz, hnh, hkd, hwt, hnl, hpool, hpt, hosz, htO, hlf, hrw, htR, hksR, hhI, hIk, hkn, hknp, hknh, hkfo, hkby, hkle, hkqp, hkql, hkqr⟩ := hv
  by_cases hM : zHearM np lessons nh v1 v2 = 2
  · have hh : v1.toNatClampNeg < 3 ∧ v2.toNatClampNeg < 5 ∧ nh < 6 := by
      unfold zHearM at hM
      split at hM
      · cases hM
      · next h =>
        split at hM
        · cases hM
        · next h2 => exact ⟨Nat.lt_of_lt_of_le (z_num (fun q => h (Or.inl q)) (by omega)) hnp, Nat.lt_of_lt_of_le (z_num (fun q => h (Or.inr q)) (by omega)) hls, by omega⟩
    unfold zInv
    simp only [if_pos hM]
    exact ⟨hnp, hls, hha, hbl, hb0, hfo, hby, hle, z_vaL hqp hh.1, z_vaL hql hh.2.1, z_vaL hqr hg, hco, hsz, by have := hh.2.2; omega, hkd, hwt, hnl, hpool, hpt, hosz, htO, hlf, hrw, Nat.le_succ_of_le htR, hksR, hhI, hIk, hkn, hknp, hknh, hkfo, hkby, hkle, hkqp, hkql, hkqr⟩
  · unfold zInv
    simp only [if_neg hM]
    exact ⟨hnp, hls, hha, hbl, hb0, hfo, hby, hle, hqp, hql, hqr, hco, hsz, hnh, hkd, hwt, hnl, hpool, hpt, hosz, htO, hlf, hrw, Nat.le_succ_of_le htR, hksR, hhI, hIk, hkn, hknp, hknh, hkfo, hkby, hkle, hkqp, hkql, hkqr⟩

theorem zI_forget {jj : Nat} {pool : va_W} {tR : Nat} {tO : Nat} {size : Nat} {codes : Nat → Nat} {lessons : Nat} {limit : Nat} {hard : Nat → Nat} {blows : Nat → Nat} {np : Nat} {nh : Nat} {fond : Nat → Nat} {boys : Nat → Nat} {learnt : Nat → Nat} {stripes : Nat → Int32} {qp : Nat → Nat} {ql : Nat → Nat} {qr : Nat → Nat} {k_np : Nat} {k_nh : Nat} {k_fond : Nat → Nat} {k_boys : Nat → Nat} {k_learnt : Nat → Nat} {k_stripes : Nat → Int32} {k_qp : Nat → Nat} {k_ql : Nat → Nat} {k_qr : Nat → Nat} {hI : Nat} {pr : Nat → Option Nat} {osz : Nat} {path : Nat → Nat} {kd : Nat → Nat} {wt : Nat → Nat} {left : Nat → Nat} {row : Nat → Nat} {kS : Nat} {iK : Int32} (hv : zInv jj pool tR tO size codes lessons limit hard blows np nh fond boys learnt stripes qp ql qr k_np k_nh k_fond k_boys k_learnt k_stripes k_qp k_ql k_qr hI pr osz path kd wt left row kS iK)   : zInv (jj + 1) pool tR tO size codes lessons limit hard blows np 0 fond boys learnt stripes qp ql qr k_np k_nh k_fond k_boys k_learnt k_stripes k_qp k_ql k_qr hI pr osz path kd wt left row kS iK := by
  obtain ⟨hnp, hls, hha, hbl, hb0, hfo, hby, hle, hqp, hql, hqr, hco, hsz, hnh, hkd, hwt, hnl, hpool, hpt, hosz, htO, hlf, hrw, htR, hksR, hhI, hIk, hkn, hknp, hknh, hkfo, hkby, hkle, hkqp, hkql, hkqr⟩ := hv
  exact ⟨hnp, hls, hha, hbl, hb0, hfo, hby, hle, hqp, hql, hqr, hco, hsz, Nat.zero_le _, hkd, hwt, hnl, hpool, hpt, hosz, htO, hlf, hrw, Nat.le_succ_of_le htR, hksR, hhI, hIk, hkn, hknp, hknh, hkfo, hkby, hkle, hkqp, hkql, hkqr⟩

theorem zI_image {jj : Nat} {pool : va_W} {tR : Nat} {tO : Nat} {size : Nat} {codes : Nat → Nat} {lessons : Nat} {limit : Nat} {hard : Nat → Nat} {blows : Nat → Nat} {np : Nat} {nh : Nat} {fond : Nat → Nat} {boys : Nat → Nat} {learnt : Nat → Nat} {stripes : Nat → Int32} {qp : Nat → Nat} {ql : Nat → Nat} {qr : Nat → Nat} {k_np : Nat} {k_nh : Nat} {k_fond : Nat → Nat} {k_boys : Nat → Nat} {k_learnt : Nat → Nat} {k_stripes : Nat → Int32} {k_qp : Nat → Nat} {k_ql : Nat → Nat} {k_qr : Nat → Nat} {hI : Nat} {pr : Nat → Option Nat} {osz : Nat} {path : Nat → Nat} {kd : Nat → Nat} {wt : Nat → Nat} {left : Nat → Nat} {row : Nat → Nat} {kS : Nat} {iK : Int32} (hv : zInv jj pool tR tO size codes lessons limit hard blows np nh fond boys learnt stripes qp ql qr k_np k_nh k_fond k_boys k_learnt k_stripes k_qp k_ql k_qr hI pr osz path kd wt left row kS iK)   : zInv (jj + 1) pool tR tO size codes lessons limit hard blows np nh fond boys learnt stripes qp ql qr (if lessons = 0 then k_np else np) (if lessons = 0 then k_nh else nh) (if lessons = 0 then k_fond else fond) (if lessons = 0 then k_boys else boys) (if lessons = 0 then k_learnt else learnt) (if lessons = 0 then k_stripes else stripes) (if lessons = 0 then k_qp else qp) (if lessons = 0 then k_ql else ql) (if lessons = 0 then k_qr else qr) (if lessons = 0 then hI else 1) pr osz path kd wt left row (if lessons = 0 then kS else tR) (if lessons = 0 then iK else 1) := by
  obtain ⟨hnp, hls, hha, hbl, hb0, hfo, hby, hle, hqp, hql, hqr, hco, hsz, hnh, hkd, hwt, hnl, hpool, hpt, hosz, htO, hlf, hrw, htR, hksR, hhI, hIk, hkn, hknp, hknh, hkfo, hkby, hkle, hkqp, hkql, hkqr⟩ := hv
  by_cases hL : lessons = 0
  · unfold zInv
    simp only [if_pos hL]
    exact ⟨hnp, hls, hha, hbl, hb0, hfo, hby, hle, hqp, hql, hqr, hco, hsz, hnh, hkd, hwt, hnl, hpool, hpt, hosz, htO, hlf, hrw, Nat.le_succ_of_le htR, hksR, hhI, hIk, hkn, hknp, hknh, hkfo, hkby, hkle, hkqp, hkql, hkqr⟩
  · unfold zInv
    simp only [if_neg hL]
    exact ⟨hnp, hls, hha, hbl, hb0, hfo, hby, hle, hqp, hql, hqr, hco, hsz, hnh, hkd, hwt, hnl, hpool, hpt, hosz, htO, hlf, hrw, Nat.le_succ_of_le htR, Nat.le_refl _, by omega, (by constructor; (intro h; exact absurd h (by decide)); (intro h; rcases h with h | h; exact absurd h (by decide); exact absurd (by first | rfl | trivial) h)), fun _ => ⟨Nat.le_refl _, by omega⟩, hnp, hnh, hfo, hby, hle, hqp, hql, hqr⟩

theorem zI_restore {jj : Nat} {pool : va_W} {tR : Nat} {tO : Nat} {size : Nat} {codes : Nat → Nat} {lessons : Nat} {limit : Nat} {hard : Nat → Nat} {blows : Nat → Nat} {np : Nat} {nh : Nat} {fond : Nat → Nat} {boys : Nat → Nat} {learnt : Nat → Nat} {stripes : Nat → Int32} {qp : Nat → Nat} {ql : Nat → Nat} {qr : Nat → Nat} {k_np : Nat} {k_nh : Nat} {k_fond : Nat → Nat} {k_boys : Nat → Nat} {k_learnt : Nat → Nat} {k_stripes : Nat → Int32} {k_qp : Nat → Nat} {k_ql : Nat → Nat} {k_qr : Nat → Nat} {hI : Nat} {pr : Nat → Option Nat} {osz : Nat} {path : Nat → Nat} {kd : Nat → Nat} {wt : Nat → Nat} {left : Nat → Nat} {row : Nat → Nat} {kS : Nat} {iK : Int32} (hv : zInv jj pool tR tO size codes lessons limit hard blows np nh fond boys learnt stripes qp ql qr k_np k_nh k_fond k_boys k_learnt k_stripes k_qp k_ql k_qr hI pr osz path kd wt left row kS iK)   : zInv (jj + 1) pool tR tO size codes lessons limit hard blows (if hI = 0 then np else k_np) (if hI = 0 then nh else k_nh) (if hI = 0 then fond else k_fond) (if hI = 0 then boys else k_boys) (if hI = 0 then learnt else k_learnt) (if hI = 0 then stripes else k_stripes) (if hI = 0 then qp else k_qp) (if hI = 0 then ql else k_ql) (if hI = 0 then qr else k_qr) k_np k_nh k_fond k_boys k_learnt k_stripes k_qp k_ql k_qr hI pr osz path kd wt left row kS iK := by
  obtain ⟨hnp, hls, hha, hbl, hb0, hfo, hby, hle, hqp, hql, hqr, hco, hsz, hnh, hkd, hwt, hnl, hpool, hpt, hosz, htO, hlf, hrw, htR, hksR, hhI, hIk, hkn, hknp, hknh, hkfo, hkby, hkle, hkqp, hkql, hkqr⟩ := hv
  by_cases hL : hI = 0
  · unfold zInv
    simp only [if_pos hL]
    exact ⟨hnp, hls, hha, hbl, hb0, hfo, hby, hle, hqp, hql, hqr, hco, hsz, hnh, hkd, hwt, hnl, hpool, hpt, hosz, htO, hlf, hrw, Nat.le_succ_of_le htR, hksR, hhI, hIk, hkn, hknp, hknh, hkfo, hkby, hkle, hkqp, hkql, hkqr⟩
  · obtain ⟨g1, g2⟩ := hkn hL
    unfold zInv
    simp only [if_neg hL]
    exact ⟨hknp, hls, hha, hbl, hb0, hkfo, hkby, hkle, hkqp, hkql, hkqr, hco, hsz, hknh, hkd, hwt, fun _ => g2, fun p hp => hpool p (by omega), hpt, hosz, htO, hlf, hrw, Nat.le_succ_of_le htR, hksR, hhI, hIk, fun _ => ⟨Nat.le_refl _, g2⟩, hknp, hknh, hkfo, hkby, hkle, hkqp, hkql, hkqr⟩
