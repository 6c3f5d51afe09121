/-! OPS: the rows, what was found, the trace -/
theorem m6_found {h : Hv} {v : Int32} : MtF M_X6_found 0 [.ref 0, .int v] (h) (some (.int (-1000010 - v))) (hset h 0 9 v) := by
  refine MtF.of [some (.ref 0), some (.int v)] pl_X6 rfl rfl ?_
  refine g_aload_n d_X6_found_0 rfl ?_
  refine g_iload_n d_X6_found_1 rfl ?_
  refine h_putI d_X6_found_2 fl_6_108 sp_L rfl ?_
  refine g_ldc d_X6_found_5 kc_X6_112 ?_
  refine g_iload_n d_X6_found_7 rfl ?_
  refine g_isub d_X6_found_8 ?_
  refine h_iret d_X6_found_9 rfl ?_
  exact ⟨rfl, rfl⟩
theorem m6_foundNothing {h : Hv} {v : Int32} : MtF M_X6_foundNothing 0 [.ref 0, .int v] (h) (some (.int v)) (hset h 0 9 0) := by
  refine MtF.of [some (.ref 0), some (.int v)] pl_X6 rfl rfl ?_
  refine g_aload_n d_X6_foundNothing_0 rfl ?_
  refine g_iconst d_X6_foundNothing_1 ik_0 ?_
  refine h_putI d_X6_foundNothing_2 fl_6_108 sp_L rfl ?_
  refine g_iload_n d_X6_foundNothing_5 rfl ?_
  refine h_iret d_X6_foundNothing_6 rfl ?_
  exact ⟨rfl, rfl⟩
theorem m7_found {h w : Hv} {v : Int32} : MtF M_X7_found 0 [.ref 360, .int v] (mu h w) (some (.int (-1000010 - v))) (mu h (hset w 0 4 v)) := by
  refine MtF.of [some (.ref 360), some (.int v)] pl_X7 rfl rfl ?_
  refine g_aload_n d_X7_found_0 rfl ?_
  refine g_iload_n d_X7_found_1 rfl ?_
  refine mm_putI d_X7_found_2 fl_7_66 sp_M rfl ?_
  refine g_ldc d_X7_found_5 kc_X7_69 ?_
  refine g_iload_n d_X7_found_7 rfl ?_
  refine g_isub d_X7_found_8 ?_
  refine h_iret d_X7_found_9 rfl ?_
  exact ⟨rfl, rfl⟩
theorem m7_well {h w : Hv} {v : Int32} : MtF M_X7_well 0 [.ref 360, .int v] (mu h w) (some (.int v)) (mu h (hset w 0 4 0)) := by
  refine MtF.of [some (.ref 360), some (.int v)] pl_X7 rfl rfl ?_
  refine g_aload_n d_X7_well_0 rfl ?_
  refine g_iconst d_X7_well_1 ik_0 ?_
  refine mm_putI d_X7_well_2 fl_7_66 sp_M rfl ?_
  refine g_iload_n d_X7_well_5 rfl ?_
  refine h_iret d_X7_well_6 rfl ?_
  exact ⟨rfl, rfl⟩
theorem m7_isRow {h : Hv} {v : Int32} : MtF M_X7_isRow 1 [.int v] (h) (some (.int (b2i (¬ v < 0 ∧ ¬ 7 < v)))) (h) := by
  refine MtF.of [some (.int v)] pl_X7 rfl rfl ?_
  refine g_iload_n d_X7_isRow_0 rfl ?_
  refine g_iconst d_X7_isRow_1 ik_0 ?_
  refine g_bipush d_X7_isRow_2 bk_7 ?_
  refine h_S3i d_X7_isRow_4 cl_7_70 m7_in (Nat.le_of_ble_eq_true rfl) (by decide) ?_
  refine h_zret d_X7_isRow_7 rfl b2i_nar ?_
  exact ⟨rfl, rfl⟩
theorem op_status {h w : Hv} (hR : RelP h w) : OPI M_X6_status M_X7_status 1 1 [] (mu h w) := by
  refine MtH.of [some (.ref 0)] pl_X6 rfl rfl ?_
  refine g_aload_n d_X6_status_0 rfl ?_
  refine h_getI d_X6_status_1 fl_6_108 sp_L rfl ?_
  refine h_iret d_X6_status_4 rfl ?_
  refine ⟨_, rfl, ?_⟩
  refine MtH.of [some (.ref 360)] pl_X7 rfl rfl ?_
  refine g_aload_n d_X7_status_0 rfl ?_
  refine g_iconst d_X7_status_1 ik_0 ?_
  refine mm_putI d_X7_status_2 fl_7_62 sp_M rfl ?_
  refine g_aload_n d_X7_status_5 rfl ?_
  refine mm_getV (v := h 0 9) d_X7_status_6 fl_7_66 sp_M rfl ((hs_b (by decide)).trans hR.1.symm) ?_
  refine h_iret d_X7_status_9 rfl ?_
  exact ⟨by rw [mu_low (by decide)], _, _, rfl, hR.fr fr_thrown⟩
theorem op_fault {h w : Hv} (hR : RelP h w) : OPI M_X6_fault M_X7_fault 1 1 [] (mu h w) := by
  refine MtH.of [some (.ref 0)] pl_X6 rfl rfl ?_
  refine g_aload_n d_X6_fault_0 rfl ?_
  refine h_getR d_X6_fault_1 fl_6_19 sp_L rfl ?_
  refine h_getI d_X6_fault_4 fl_6_135 sp_Tape rfl ?_
  refine h_iret d_X6_fault_7 rfl ?_
  refine ⟨_, rfl, ?_⟩
  refine MtH.of [some (.ref 360)] pl_X7 rfl rfl ?_
  refine g_aload_n d_X7_fault_0 rfl ?_
  refine g_iconst d_X7_fault_1 ik_0 ?_
  refine mm_putI d_X7_fault_2 fl_7_62 sp_M rfl ?_
  refine g_aload_n d_X7_fault_5 rfl ?_
  refine mm_getV (v := h 13 6) d_X7_fault_6 fl_7_145 sp_M rfl ((hs_b (by decide)).trans hR.2.2.1.1.symm) ?_
  refine h_iret d_X7_fault_9 rfl ?_
  exact ⟨by rw [mu_low (by decide)], _, _, rfl, hR.fr fr_thrown⟩
theorem nI_predI {t : Nat} (h : t < 2 ^ 31) : (nI t - 1).toInt = (t : Int) - 1 := by
  rcases Nat.eq_zero_or_pos t with e | e
  · subst e; decide
  · rw [show (1 : Int32) = nI 1 from rfl, pk_sub e, nI_toInt (by omega)]
    omega
theorem op_trace {h w : Hv} (hR : RelP h w) {x : Int32} : OPI M_X6_trace M_X7_trace 1 1 [.int x] (mu h w) := by
  obtain ⟨t, ht0, ht1, ht2, ht3⟩ := hR.2.2.2.2.2
  have e1 : (nI t).toInt = t := nI_toInt (by omega)
  have e2 := nI_predI (t := t) (by omega)
  refine MtH.of [some (.ref 0), some (.int x)] pl_X6 rfl rfl ?_
  refine g_iload_n d_X6_trace_0 rfl ?_
  refine g_if_lt d_X6_trace_1 (fun c1 => ?_) (fun c1 => ?_)
  · refine g_ldc d_X6_trace_27 kc_X6_220 ?_
    refine h_iret d_X6_trace_29 rfl ?_
    refine ⟨_, rfl, ?_⟩
    refine MtH.of [some (.ref 360), some (.int x)] pl_X7 rfl rfl ?_
    refine g_aload_n d_X7_trace_0 rfl ?_
    refine g_iconst d_X7_trace_1 ik_0 ?_
    refine mm_putI d_X7_trace_2 fl_7_62 sp_M rfl ?_
    refine g_iload_n d_X7_trace_5 rfl ?_
    refine g_iconst d_X7_trace_6 ik_0 ?_
    refine g_aload_n d_X7_trace_7 rfl ?_
    refine mm_getV (v := nI t) d_X7_trace_8 fl_7_264 sp_M rfl ((hs_b (by decide)).trans ht2) ?_
    refine g_iconst d_X7_trace_11 ik_1 ?_
    refine g_isub d_X7_trace_12 ?_
    refine h_S3i d_X7_trace_13 cl_7_70 m7_in (Nat.le_of_ble_eq_true rfl) (by decide) ?_
    refine g_if_eq d_X7_trace_16 (fun c16 => ?_) (fun c16 => ?_)
    · refine g_ldc d_X7_trace_28 kc_X7_207 ?_
      refine h_iret d_X7_trace_30 rfl ?_
      exact ⟨rfl, _, _, rfl, hR.fr fr_thrown⟩
    · exfalso
      simp only [b2i_eq0, b2i_ne0, Int32.lt_iff_toInt_lt, Int32.le_iff_toInt_le, t_0, t_1, t_2, t_3, t_4, t_5, t_6, t_7, t_8, t_9, t_10, t_11, t_12, t_20, t_24, t_40, t_50, t_60, t_99, t_110, t_255, t_999, t_999999, t_m1, e1, e2] at *
      omega
  · refine g_iload_n d_X6_trace_4 rfl ?_
    refine g_aload_n d_X6_trace_5 rfl ?_
    refine h_getR d_X6_trace_6 fl_6_54 sp_L rfl ?_
    refine h_getV (v := nI t) d_X6_trace_9 fl_6_349 sp_Asks rfl ((mu_low (by decide)).trans ht1) ?_
    refine g_icmp_ge d_X6_trace_12 (fun c12 => ?_) (fun c12 => ?_)
    · refine g_ldc d_X6_trace_27 kc_X6_220 ?_
      refine h_iret d_X6_trace_29 rfl ?_
      refine ⟨_, rfl, ?_⟩
      refine MtH.of [some (.ref 360), some (.int x)] pl_X7 rfl rfl ?_
      refine g_aload_n d_X7_trace_0 rfl ?_
      refine g_iconst d_X7_trace_1 ik_0 ?_
      refine mm_putI d_X7_trace_2 fl_7_62 sp_M rfl ?_
      refine g_iload_n d_X7_trace_5 rfl ?_
      refine g_iconst d_X7_trace_6 ik_0 ?_
      refine g_aload_n d_X7_trace_7 rfl ?_
      refine mm_getV (v := nI t) d_X7_trace_8 fl_7_264 sp_M rfl ((hs_b (by decide)).trans ht2) ?_
      refine g_iconst d_X7_trace_11 ik_1 ?_
      refine g_isub d_X7_trace_12 ?_
      refine h_S3i d_X7_trace_13 cl_7_70 m7_in (Nat.le_of_ble_eq_true rfl) (by decide) ?_
      refine g_if_eq d_X7_trace_16 (fun c16 => ?_) (fun c16 => ?_)
      · refine g_ldc d_X7_trace_28 kc_X7_207 ?_
        refine h_iret d_X7_trace_30 rfl ?_
        exact ⟨rfl, _, _, rfl, hR.fr fr_thrown⟩
      · exfalso
        simp only [b2i_eq0, b2i_ne0, Int32.lt_iff_toInt_lt, Int32.le_iff_toInt_le, t_0, t_1, t_2, t_3, t_4, t_5, t_6, t_7, t_8, t_9, t_10, t_11, t_12, t_20, t_24, t_40, t_50, t_60, t_99, t_110, t_255, t_999, t_999999, t_m1, e1, e2] at *
        omega
    · obtain ⟨k, hk, ex⟩ := rng c1 c12 (by omega)
      refine g_aload_n d_X6_trace_15 rfl ?_
      refine h_getR d_X6_trace_16 fl_6_54 sp_L rfl ?_
      refine h_getR d_X6_trace_19 fl_6_352 sp_Asks rfl ?_
      refine g_iload_n d_X6_trace_22 rfl ?_
      refine h_aldV (k := k) (v := w 15 k) d_X6_trace_23 sp_numbers ex (by omega) (by decide) ((mu_low (by decide)).trans (ht3 k hk)) ?_
      refine g_goto d_X6_trace_24 ?_
      refine h_iret d_X6_trace_29 rfl ?_
      refine ⟨_, rfl, ?_⟩
      refine MtH.of [some (.ref 360), some (.int x)] pl_X7 rfl rfl ?_
      refine g_aload_n d_X7_trace_0 rfl ?_
      refine g_iconst d_X7_trace_1 ik_0 ?_
      refine mm_putI d_X7_trace_2 fl_7_62 sp_M rfl ?_
      refine g_iload_n d_X7_trace_5 rfl ?_
      refine g_iconst d_X7_trace_6 ik_0 ?_
      refine g_aload_n d_X7_trace_7 rfl ?_
      refine mm_getV (v := nI t) d_X7_trace_8 fl_7_264 sp_M rfl ((hs_b (by decide)).trans ht2) ?_
      refine g_iconst d_X7_trace_11 ik_1 ?_
      refine g_isub d_X7_trace_12 ?_
      refine h_S3i d_X7_trace_13 cl_7_70 m7_in (Nat.le_of_ble_eq_true rfl) (by decide) ?_
      refine g_if_eq d_X7_trace_16 (fun c16 => ?_) (fun c16 => ?_)
      · exfalso
        simp only [b2i_eq0, b2i_ne0, Int32.lt_iff_toInt_lt, Int32.le_iff_toInt_le, t_0, t_1, t_2, t_3, t_4, t_5, t_6, t_7, t_8, t_9, t_10, t_11, t_12, t_20, t_24, t_40, t_50, t_60, t_99, t_110, t_255, t_999, t_999999, t_m1, e1, e2] at *
        omega
      · refine g_aload_n d_X7_trace_19 rfl ?_
        refine h_getR d_X7_trace_20 fl_7_53 sp_M rfl ?_
        refine g_iload_n d_X7_trace_23 rfl ?_
        refine mm_aldV (k := k) (v := w 15 k) d_X7_trace_24 (j := 15) sp_m_traced rfl (by decide) ex (by omega) (by decide) (hs_j (by decide)) ?_
        refine g_goto d_X7_trace_25 ?_
        refine h_iret d_X7_trace_30 rfl ?_
        exact ⟨rfl, _, _, rfl, hR.fr fr_thrown⟩
