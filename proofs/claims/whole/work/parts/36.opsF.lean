/-! OPS: foretold: ahead, inside, all -/
theorem p_hasLoad {h w : Hv} {m : Int32} : MtF M_X2_hasLoad 0 [.ref 15, .int m] (mu h w) (some (.int (b2i (¬ m < 0 ∧ ¬ hv h 15 0 3 ≤ m)))) (mu h w) := by
  have q := m_hasLoad (h := mu h w) (g := hv h 15) hall_15 (m := m)
  rw [← mu_15] at q
  exact q
theorem p_hasMachine {h w : Hv} {m : Int32} : MtF M_X2_hasMachine 0 [.ref 15, .int m] (mu h w) (some (.int (b2i (¬ m < 0 ∧ ¬ hv h 15 0 2 ≤ m)))) (mu h w) := by
  have q := m_hasMachine (h := mu h w) (g := hv h 15) hall_15 (m := m)
  rw [← mu_15] at q
  exact q
theorem p_isNone {h w : Hv} : MtF M_X2_isNone 0 [.ref 15] (mu h w) (some (.int (b2i (hv h 15 0 2 = 0)))) (mu h w) := by
  have q := m_isNone (h := mu h w) (g := hv h 15) hall_15
  rw [← mu_15] at q
  exact q
theorem fc_27 {h g : Hv} : FrC h (pu h 27 g) := fun x y a _ _ _ _ _ => blk_out (by omega)
theorem pu_27h {h : Hv} : pu h 27 (vw h 15) = pu h 27 (hv h 15) := pu_ext (fun j b hj => (hv_at hj).symm)
theorem m6_asNow {h : Hv} : MtF M_X6_asNow 2 [.ref 0] (h) (some (.ref 27)) (pu h 27 (hv h 15)) := by
  refine MtF.of [some (.ref 0)] pl_X6 rfl rfl ?_
  refine g_aload_n d_X6_asNow_0 rfl ?_
  refine h_getR d_X6_asNow_1 fl_6_30 sp_L rfl ?_
  refine g_aload_n d_X6_asNow_4 rfl ?_
  refine h_getR d_X6_asNow_5 fl_6_26 sp_L rfl ?_
  refine h_V1v d_X6_asNow_8 cl_6_151 (m_become hall_27 hall_15 (by decide)) (sp_hall hall_27) (by decide) rfl (Nat.le_of_ble_eq_true rfl) (by decide) ?_
  rw [pu_27h]
  refine g_aload_n d_X6_asNow_11 rfl ?_
  refine h_getR d_X6_asNow_12 fl_6_30 sp_L rfl ?_
  refine h_aret d_X6_asNow_15 rfl ?_
  exact ⟨rfl, rfl⟩
theorem m6_behindWithOpen {h : Hv} {M N n : Nat} {b : Int32} (hI : HI M N (hset (hv h 15) 0 4 b)) {z : Int32} (ez : z = nI n) (hn : n < 2 ^ 30) : MtF M_X6_behindWithOpen 5 [.ref 0, .int z, .int b] (h) (some (.ref 27)) (pu h 27 (tickN M N n (hset (hv h 15) 0 4 b))) := by
  subst ez
  refine MtF.of [some (.ref 0), some (.int (nI n)), some (.int b), none] pl_X6 rfl rfl ?_
  refine g_aload_n d_X6_behindWithOpen_0 rfl ?_
  refine h_V0a d_X6_behindWithOpen_1 cl_6_242 m6_asNow sp_L (by decide) rfl (Nat.le_of_ble_eq_true rfl) (by decide) ?_
  refine w_astore_n (L' := [_, _, _, _]) d_X6_behindWithOpen_4 rfl rfl rfl ?_
  refine g_aload_n d_X6_behindWithOpen_5 rfl ?_
  refine g_iload_n d_X6_behindWithOpen_6 rfl ?_
  refine hh_putI d_X6_behindWithOpen_7 fl_6_228 hall_27 (by decide) ?_
  refine g_aload_n d_X6_behindWithOpen_10 rfl ?_
  refine g_iload_n d_X6_behindWithOpen_11 rfl ?_
  refine h_V1v d_X6_behindWithOpen_12 cl_6_268 (m_passTicks hall_27 hI rfl hn) (sp_hall hall_27) (by decide) rfl (Nat.le_of_ble_eq_true rfl) (by decide) ?_
  refine g_aload_n d_X6_behindWithOpen_15 rfl ?_
  refine h_aret d_X6_behindWithOpen_16 rfl ?_
  exact ⟨rfl, rfl⟩
theorem hv_open {h : Hv} : hset (hv h 15) 0 4 (h 15 4) = hv h 15 := hs_id (hv_at (by decide))
theorem m6_bwo {h : Hv} {M N n : Nat} (hI : HI M N (hv h 15)) {z : Int32} (ez : z = nI n) (hn : n < 2 ^ 30) : MtF M_X6_behindWithOpen 5 [.ref 0, .int z, .int (h 15 4)] h (some (.ref 27)) (pu h 27 (tickN M N n (hv h 15))) := by
  have q := m6_behindWithOpen (h := h) (b := h 15 4) (M := M) (N := N) (by rw [hv_open]; exact hI) ez hn
  rw [hv_open] at q
  exact q
theorem m6_behind {h : Hv} {M N n : Nat} (hI : HI M N (hv h 15)) {z : Int32} (ez : z = nI n) (hn : n < 2 ^ 30) : MtF M_X6_behind 6 [.ref 0, .int z] (h) (some (.ref 27)) (pu h 27 (tickN M N n (hv h 15))) := by
  refine MtF.of [some (.ref 0), some (.int z)] pl_X6 rfl rfl ?_
  refine g_aload_n d_X6_behind_0 rfl ?_
  refine g_iload_n d_X6_behind_1 rfl ?_
  refine g_aload_n d_X6_behind_2 rfl ?_
  refine h_getR d_X6_behind_3 fl_6_26 sp_L rfl ?_
  refine h_getI d_X6_behind_6 fl_6_228 (sp_hall hall_15) rfl ?_
  refine h_V2a d_X6_behind_9 cl_6_276 (m6_bwo hI ez hn) sp_L (by decide) rfl (Nat.le_of_ble_eq_true rfl) (by decide) ?_
  refine h_aret d_X6_behind_12 rfl ?_
  exact ⟨rfl, rfl⟩
theorem p_behind {h w : Hv} {M N n : Nat} (hI : HI M N (hv h 15)) {z : Int32} (ez : z = nI n) (hn : n < 2 ^ 30) : MtF M_X6_behind 6 [.ref 0, .int z] (mu h w) (some (.ref 27)) (pu (mu h w) 27 (tickN M N n (hv h 15))) := by
  have q := m6_behind (h := mu h w) (M := M) (N := N) (by rw [mu_hv (by decide)]; exact hI) ez hn
  rw [mu_hv (by decide)] at q
  exact q
theorem op_ahead {h w : Hv} (hR : RelP h w) {x y u : Int32} : OPI M_X6_ahead M_X7_ahead 7 5 [.int x, .int y, .int u] (mu h w) := by
  obtain ⟨M, N, hM5, hN6, gM, wM, gN, wN, hZ⟩ := hR.mn
  have eM : (nI M).toInt = M := nI_toInt (by omega)
  have eN : (nI N).toInt = N := nI_toInt (by omega)
  have eM1 := nI_predI (t := M) (by omega)
  have eN1 := nI_predI (t := N) (by omega)
  refine MtH.of [some (.ref 0), some (.int x), some (.int y), some (.int u), none] pl_X6 rfl rfl ?_
  refine g_aload_n d_X6_ahead_0 rfl ?_
  refine h_getR d_X6_ahead_1 fl_6_26 sp_L rfl ?_
  refine g_iload_n d_X6_ahead_4 rfl ?_
  refine h_V1i d_X6_ahead_5 cl_6_183 p_hasLoad (sp_hall hall_15) (by decide) rfl (Nat.le_of_ble_eq_true rfl) (by decide) ?_
  refine g_if_eq d_X6_ahead_8 (fun c8 => ?_) (fun c8 => ?_)
  · refine g_ldc d_X6_ahead_30 kc_X6_66 ?_
    refine h_iret d_X6_ahead_32 rfl ?_
    refine ⟨_, rfl, ?_⟩
    refine MtH.of [some (.ref 360), some (.int x), some (.int y), some (.int u)] pl_X7 rfl rfl ?_
    refine g_aload_n d_X7_ahead_0 rfl ?_
    refine g_iconst d_X7_ahead_1 ik_0 ?_
    refine mm_putI d_X7_ahead_2 fl_7_62 sp_M rfl ?_
    refine g_aload_n d_X7_ahead_5 rfl ?_
    refine g_iload_n d_X7_ahead_6 rfl ?_
    refine h_V1i d_X7_ahead_7 cl_7_204 (m7_isLoad ((hs_j (by decide)).trans wN)) sp_M (by decide) rfl (Nat.le_of_ble_eq_true rfl) (by decide) ?_
    refine g_if_eq d_X7_ahead_10 (fun c10 => ?_) (fun c10 => ?_)
    · refine g_ldc d_X7_ahead_32 kc_X7_78 ?_
      refine h_iret d_X7_ahead_34 rfl ?_
      exact ⟨rfl, _, _, rfl, hR.fr fr_thrown⟩
    · refine g_iload_n d_X7_ahead_13 rfl ?_
      refine g_iconst d_X7_ahead_14 ik_0 ?_
      refine g_bipush d_X7_ahead_15 bk_60 ?_
      refine h_S3i d_X7_ahead_17 cl_7_70 m7_in (Nat.le_of_ble_eq_true rfl) (by decide) ?_
      refine g_if_eq d_X7_ahead_20 (fun c20 => ?_) (fun c20 => ?_)
      · refine g_ldc d_X7_ahead_32 kc_X7_78 ?_
        refine h_iret d_X7_ahead_34 rfl ?_
        exact ⟨rfl, _, _, rfl, hR.fr fr_thrown⟩
      · refine g_iload_n d_X7_ahead_23 rfl ?_
        refine g_iconst d_X7_ahead_24 ik_0 ?_
        refine g_iconst d_X7_ahead_25 ik_1 ?_
        refine h_S3i d_X7_ahead_26 cl_7_70 m7_in (Nat.le_of_ble_eq_true rfl) (by decide) ?_
        refine g_if_ne d_X7_ahead_29 (fun c29 => ?_) (fun c29 => ?_)
        · exfalso
          simp only [b2i_eq0, b2i_ne0, Int32.lt_iff_toInt_lt, Int32.le_iff_toInt_le, t_0, t_1, t_2, t_3, t_4, t_5, t_6, t_7, t_8, t_9, t_10, t_11, t_12, t_20, t_24, t_40, t_50, t_60, t_99, t_110, t_255, t_999, t_999999, t_m1, gM, gN, eM, eN, eM1, eN1] at *
          omega
        · refine g_ldc d_X7_ahead_32 kc_X7_78 ?_
          refine h_iret d_X7_ahead_34 rfl ?_
          exact ⟨rfl, _, _, rfl, hR.fr fr_thrown⟩
  · refine g_iload_n d_X6_ahead_11 rfl ?_
    refine g_if_lt d_X6_ahead_12 (fun c12 => ?_) (fun c12 => ?_)
    · refine g_ldc d_X6_ahead_30 kc_X6_66 ?_
      refine h_iret d_X6_ahead_32 rfl ?_
      refine ⟨_, rfl, ?_⟩
      refine MtH.of [some (.ref 360), some (.int x), some (.int y), some (.int u)] pl_X7 rfl rfl ?_
      refine g_aload_n d_X7_ahead_0 rfl ?_
      refine g_iconst d_X7_ahead_1 ik_0 ?_
      refine mm_putI d_X7_ahead_2 fl_7_62 sp_M rfl ?_
      refine g_aload_n d_X7_ahead_5 rfl ?_
      refine g_iload_n d_X7_ahead_6 rfl ?_
      refine h_V1i d_X7_ahead_7 cl_7_204 (m7_isLoad ((hs_j (by decide)).trans wN)) sp_M (by decide) rfl (Nat.le_of_ble_eq_true rfl) (by decide) ?_
      refine g_if_eq d_X7_ahead_10 (fun c10 => ?_) (fun c10 => ?_)
      · refine g_ldc d_X7_ahead_32 kc_X7_78 ?_
        refine h_iret d_X7_ahead_34 rfl ?_
        exact ⟨rfl, _, _, rfl, hR.fr fr_thrown⟩
      · refine g_iload_n d_X7_ahead_13 rfl ?_
        refine g_iconst d_X7_ahead_14 ik_0 ?_
        refine g_bipush d_X7_ahead_15 bk_60 ?_
        refine h_S3i d_X7_ahead_17 cl_7_70 m7_in (Nat.le_of_ble_eq_true rfl) (by decide) ?_
        refine g_if_eq d_X7_ahead_20 (fun c20 => ?_) (fun c20 => ?_)
        · refine g_ldc d_X7_ahead_32 kc_X7_78 ?_
          refine h_iret d_X7_ahead_34 rfl ?_
          exact ⟨rfl, _, _, rfl, hR.fr fr_thrown⟩
        · refine g_iload_n d_X7_ahead_23 rfl ?_
          refine g_iconst d_X7_ahead_24 ik_0 ?_
          refine g_iconst d_X7_ahead_25 ik_1 ?_
          refine h_S3i d_X7_ahead_26 cl_7_70 m7_in (Nat.le_of_ble_eq_true rfl) (by decide) ?_
          refine g_if_ne d_X7_ahead_29 (fun c29 => ?_) (fun c29 => ?_)
          · exfalso
            simp only [b2i_eq0, b2i_ne0, Int32.lt_iff_toInt_lt, Int32.le_iff_toInt_le, t_0, t_1, t_2, t_3, t_4, t_5, t_6, t_7, t_8, t_9, t_10, t_11, t_12, t_20, t_24, t_40, t_50, t_60, t_99, t_110, t_255, t_999, t_999999, t_m1, gM, gN, eM, eN, eM1, eN1] at *
            omega
          · refine g_ldc d_X7_ahead_32 kc_X7_78 ?_
            refine h_iret d_X7_ahead_34 rfl ?_
            exact ⟨rfl, _, _, rfl, hR.fr fr_thrown⟩
    · refine g_iload_n d_X6_ahead_15 rfl ?_
      refine g_bipush d_X6_ahead_16 bk_60 ?_
      refine g_icmp_gt d_X6_ahead_18 (fun c18 => ?_) (fun c18 => ?_)
      · refine g_ldc d_X6_ahead_30 kc_X6_66 ?_
        refine h_iret d_X6_ahead_32 rfl ?_
        refine ⟨_, rfl, ?_⟩
        refine MtH.of [some (.ref 360), some (.int x), some (.int y), some (.int u)] pl_X7 rfl rfl ?_
        refine g_aload_n d_X7_ahead_0 rfl ?_
        refine g_iconst d_X7_ahead_1 ik_0 ?_
        refine mm_putI d_X7_ahead_2 fl_7_62 sp_M rfl ?_
        refine g_aload_n d_X7_ahead_5 rfl ?_
        refine g_iload_n d_X7_ahead_6 rfl ?_
        refine h_V1i d_X7_ahead_7 cl_7_204 (m7_isLoad ((hs_j (by decide)).trans wN)) sp_M (by decide) rfl (Nat.le_of_ble_eq_true rfl) (by decide) ?_
        refine g_if_eq d_X7_ahead_10 (fun c10 => ?_) (fun c10 => ?_)
        · refine g_ldc d_X7_ahead_32 kc_X7_78 ?_
          refine h_iret d_X7_ahead_34 rfl ?_
          exact ⟨rfl, _, _, rfl, hR.fr fr_thrown⟩
        · refine g_iload_n d_X7_ahead_13 rfl ?_
          refine g_iconst d_X7_ahead_14 ik_0 ?_
          refine g_bipush d_X7_ahead_15 bk_60 ?_
          refine h_S3i d_X7_ahead_17 cl_7_70 m7_in (Nat.le_of_ble_eq_true rfl) (by decide) ?_
          refine g_if_eq d_X7_ahead_20 (fun c20 => ?_) (fun c20 => ?_)
          · refine g_ldc d_X7_ahead_32 kc_X7_78 ?_
            refine h_iret d_X7_ahead_34 rfl ?_
            exact ⟨rfl, _, _, rfl, hR.fr fr_thrown⟩
          · refine g_iload_n d_X7_ahead_23 rfl ?_
            refine g_iconst d_X7_ahead_24 ik_0 ?_
            refine g_iconst d_X7_ahead_25 ik_1 ?_
            refine h_S3i d_X7_ahead_26 cl_7_70 m7_in (Nat.le_of_ble_eq_true rfl) (by decide) ?_
            refine g_if_ne d_X7_ahead_29 (fun c29 => ?_) (fun c29 => ?_)
            · exfalso
              simp only [b2i_eq0, b2i_ne0, Int32.lt_iff_toInt_lt, Int32.le_iff_toInt_le, t_0, t_1, t_2, t_3, t_4, t_5, t_6, t_7, t_8, t_9, t_10, t_11, t_12, t_20, t_24, t_40, t_50, t_60, t_99, t_110, t_255, t_999, t_999999, t_m1, gM, gN, eM, eN, eM1, eN1] at *
              omega
            · refine g_ldc d_X7_ahead_32 kc_X7_78 ?_
              refine h_iret d_X7_ahead_34 rfl ?_
              exact ⟨rfl, _, _, rfl, hR.fr fr_thrown⟩
      · refine g_iload_n d_X6_ahead_21 rfl ?_
        refine g_if_lt d_X6_ahead_22 (fun c22 => ?_) (fun c22 => ?_)
        · refine g_ldc d_X6_ahead_30 kc_X6_66 ?_
          refine h_iret d_X6_ahead_32 rfl ?_
          refine ⟨_, rfl, ?_⟩
          refine MtH.of [some (.ref 360), some (.int x), some (.int y), some (.int u)] pl_X7 rfl rfl ?_
          refine g_aload_n d_X7_ahead_0 rfl ?_
          refine g_iconst d_X7_ahead_1 ik_0 ?_
          refine mm_putI d_X7_ahead_2 fl_7_62 sp_M rfl ?_
          refine g_aload_n d_X7_ahead_5 rfl ?_
          refine g_iload_n d_X7_ahead_6 rfl ?_
          refine h_V1i d_X7_ahead_7 cl_7_204 (m7_isLoad ((hs_j (by decide)).trans wN)) sp_M (by decide) rfl (Nat.le_of_ble_eq_true rfl) (by decide) ?_
          refine g_if_eq d_X7_ahead_10 (fun c10 => ?_) (fun c10 => ?_)
          · refine g_ldc d_X7_ahead_32 kc_X7_78 ?_
            refine h_iret d_X7_ahead_34 rfl ?_
            exact ⟨rfl, _, _, rfl, hR.fr fr_thrown⟩
          · refine g_iload_n d_X7_ahead_13 rfl ?_
            refine g_iconst d_X7_ahead_14 ik_0 ?_
            refine g_bipush d_X7_ahead_15 bk_60 ?_
            refine h_S3i d_X7_ahead_17 cl_7_70 m7_in (Nat.le_of_ble_eq_true rfl) (by decide) ?_
            refine g_if_eq d_X7_ahead_20 (fun c20 => ?_) (fun c20 => ?_)
            · refine g_ldc d_X7_ahead_32 kc_X7_78 ?_
              refine h_iret d_X7_ahead_34 rfl ?_
              exact ⟨rfl, _, _, rfl, hR.fr fr_thrown⟩
            · refine g_iload_n d_X7_ahead_23 rfl ?_
              refine g_iconst d_X7_ahead_24 ik_0 ?_
              refine g_iconst d_X7_ahead_25 ik_1 ?_
              refine h_S3i d_X7_ahead_26 cl_7_70 m7_in (Nat.le_of_ble_eq_true rfl) (by decide) ?_
              refine g_if_ne d_X7_ahead_29 (fun c29 => ?_) (fun c29 => ?_)
              · exfalso
                simp only [b2i_eq0, b2i_ne0, Int32.lt_iff_toInt_lt, Int32.le_iff_toInt_le, t_0, t_1, t_2, t_3, t_4, t_5, t_6, t_7, t_8, t_9, t_10, t_11, t_12, t_20, t_24, t_40, t_50, t_60, t_99, t_110, t_255, t_999, t_999999, t_m1, gM, gN, eM, eN, eM1, eN1] at *
                omega
              · refine g_ldc d_X7_ahead_32 kc_X7_78 ?_
                refine h_iret d_X7_ahead_34 rfl ?_
                exact ⟨rfl, _, _, rfl, hR.fr fr_thrown⟩
        · refine g_iload_n d_X6_ahead_25 rfl ?_
          refine g_iconst d_X6_ahead_26 ik_1 ?_
          refine g_icmp_le d_X6_ahead_27 (fun c27 => ?_) (fun c27 => ?_)
          · obtain ⟨l, hl, rfl⟩ := rngI (x := x) (B := N) (by simp only [b2i_eq0, b2i_ne0, Int32.lt_iff_toInt_lt, Int32.le_iff_toInt_le, t_0, t_1, t_2, t_3, t_4, t_5, t_6, t_7, t_8, t_9, t_10, t_11, t_12, t_20, t_24, t_40, t_50, t_60, t_99, t_110, t_255, t_999, t_999999, t_m1, gM, gN, eM, eN, eM1, eN1] at *; omega) (by simp only [b2i_eq0, b2i_ne0, Int32.lt_iff_toInt_lt, Int32.le_iff_toInt_le, t_0, t_1, t_2, t_3, t_4, t_5, t_6, t_7, t_8, t_9, t_10, t_11, t_12, t_20, t_24, t_40, t_50, t_60, t_99, t_110, t_255, t_999, t_999999, t_m1, gM, gN, eM, eN, eM1, eN1] at *; omega)
            have el : (nI l).toInt = l := nI_toInt (by omega)
            obtain ⟨n, hn, rfl⟩ := rngI (x := y) (B := 61) (by simp only [b2i_eq0, b2i_ne0, Int32.lt_iff_toInt_lt, Int32.le_iff_toInt_le, t_0, t_1, t_2, t_3, t_4, t_5, t_6, t_7, t_8, t_9, t_10, t_11, t_12, t_20, t_24, t_40, t_50, t_60, t_99, t_110, t_255, t_999, t_999999, t_m1, el, gM, gN, eM, eN, eM1, eN1] at *; omega) (by simp only [b2i_eq0, b2i_ne0, Int32.lt_iff_toInt_lt, Int32.le_iff_toInt_le, t_0, t_1, t_2, t_3, t_4, t_5, t_6, t_7, t_8, t_9, t_10, t_11, t_12, t_20, t_24, t_40, t_50, t_60, t_99, t_110, t_255, t_999, t_999999, t_m1, el, gM, gN, eM, eN, eM1, eN1] at *; omega)
            have en : (nI n).toInt = n := nI_toInt (by omega)
            obtain ⟨i0, c0, hi0, hi1, hS, hA, hO⟩ := (hZ.resolve_left (fun z => by have := z.1; have := z.2.1; omega)).2.2
            have hI := hS.1
            refine g_aload_n d_X6_ahead_33 rfl ?_
            refine g_iload_n d_X6_ahead_34 rfl ?_
            refine h_V1a d_X6_ahead_35 cl_6_235 (p_behind hI rfl (by omega)) sp_L (by decide) rfl (Nat.le_of_ble_eq_true rfl) (by decide) ?_
            refine w_astore (L' := [_, _, _, _, _]) d_X6_ahead_38 rfl rfl rfl ?_
            refine g_iload_n d_X6_ahead_40 rfl ?_
            refine g_if_ne d_X6_ahead_41 (fun c41 => ?_) (fun c41 => ?_)
            · have k41 := c41
              refine g_aload d_X6_ahead_54 rfl ?_
              refine g_iload_n d_X6_ahead_56 rfl ?_
              refine h_V1i d_X6_ahead_57 cl_6_221 (m_lateOf hall_27 rfl (by omega)) (sp_hall hall_27) (by decide) rfl (Nat.le_of_ble_eq_true rfl) (by decide) ?_
              refine h_iret d_X6_ahead_60 rfl ?_
              refine ⟨_, rfl, ?_⟩
              rw [mu_pu (by decide)]
              refine MtH.of [some (.ref 360), some (.int (nI l)), some (.int (nI n)), some (.int u)] pl_X7 rfl rfl ?_
              refine g_aload_n d_X7_ahead_0 rfl ?_
              refine g_iconst d_X7_ahead_1 ik_0 ?_
              refine mm_putI d_X7_ahead_2 fl_7_62 sp_M rfl ?_
              refine g_aload_n d_X7_ahead_5 rfl ?_
              refine g_iload_n d_X7_ahead_6 rfl ?_
              refine h_V1i d_X7_ahead_7 cl_7_204 (m7_isLoad ((hs_j (by decide)).trans wN)) sp_M (by decide) rfl (Nat.le_of_ble_eq_true rfl) (by decide) ?_
              refine g_if_eq d_X7_ahead_10 (fun c10 => ?_) (fun c10 => ?_)
              · exfalso
                simp only [b2i_eq0, b2i_ne0, Int32.lt_iff_toInt_lt, Int32.le_iff_toInt_le, t_0, t_1, t_2, t_3, t_4, t_5, t_6, t_7, t_8, t_9, t_10, t_11, t_12, t_20, t_24, t_40, t_50, t_60, t_99, t_110, t_255, t_999, t_999999, t_m1, el, en, gM, gN, eM, eN, eM1, eN1] at *
                omega
              · refine g_iload_n d_X7_ahead_13 rfl ?_
                refine g_iconst d_X7_ahead_14 ik_0 ?_
                refine g_bipush d_X7_ahead_15 bk_60 ?_
                refine h_S3i d_X7_ahead_17 cl_7_70 m7_in (Nat.le_of_ble_eq_true rfl) (by decide) ?_
                refine g_if_eq d_X7_ahead_20 (fun c20 => ?_) (fun c20 => ?_)
                · exfalso
                  simp only [b2i_eq0, b2i_ne0, Int32.lt_iff_toInt_lt, Int32.le_iff_toInt_le, t_0, t_1, t_2, t_3, t_4, t_5, t_6, t_7, t_8, t_9, t_10, t_11, t_12, t_20, t_24, t_40, t_50, t_60, t_99, t_110, t_255, t_999, t_999999, t_m1, el, en, gM, gN, eM, eN, eM1, eN1] at *
                  omega
                · refine g_iload_n d_X7_ahead_23 rfl ?_
                  refine g_iconst d_X7_ahead_24 ik_0 ?_
                  refine g_iconst d_X7_ahead_25 ik_1 ?_
                  refine h_S3i d_X7_ahead_26 cl_7_70 m7_in (Nat.le_of_ble_eq_true rfl) (by decide) ?_
                  refine g_if_ne d_X7_ahead_29 (fun c29 => ?_) (fun c29 => ?_)
                  · refine g_aload_n d_X7_ahead_35 rfl ?_
                    refine g_iload_n d_X7_ahead_36 rfl ?_
                    refine h_V1P d_X7_ahead_37 cl_7_212 (m7_goesAhead (hS.2.1.th hM5 hN6) hI hS.2.2.1.1 rfl (by omega)) sp_M (by decide) rfl (Nat.le_of_ble_eq_true rfl) (by decide) ?_
                    intro v' h' hp
                    obtain ⟨rfl, w2, rfl, hr2, hf2, hd2⟩ := hp
                    refine g_iload_n d_X7_ahead_40 rfl ?_
                    refine g_if_ne d_X7_ahead_41 (fun c41 => ?_) (fun c41 => absurd c41 k41)
                    refine g_aload_n d_X7_ahead_56 rfl ?_
                    refine h_getR d_X7_ahead_57 fl_7_37 sp_M rfl ?_
                    refine g_iload_n d_X7_ahead_60 rfl ?_
                    refine h_S2i d_X7_ahead_61 cl_7_187 (m7_lateOf ar_w hr2.r0 hN6 hl rfl) (Nat.le_of_ble_eq_true rfl) (by decide) ?_
                    refine h_iret d_X7_ahead_64 rfl ?_
                    exact ⟨rfl, _, _, rfl, (hR.fc fc_27).fr (fr_thrown.tr hf2.fr)⟩
                  · exfalso
                    simp only [b2i_eq0, b2i_ne0, Int32.lt_iff_toInt_lt, Int32.le_iff_toInt_le, t_0, t_1, t_2, t_3, t_4, t_5, t_6, t_7, t_8, t_9, t_10, t_11, t_12, t_20, t_24, t_40, t_50, t_60, t_99, t_110, t_255, t_999, t_999999, t_m1, el, en, gM, gN, eM, eN, eM1, eN1] at *
                    omega
            · have k41 := c41
              refine g_aload d_X6_ahead_44 rfl ?_
              refine h_getR d_X6_ahead_46 fl_6_189 (sp_hall hall_27) rfl ?_
              refine g_iload_n d_X6_ahead_49 rfl ?_
              refine hh_aldE (k := l) d_X6_ahead_50 (sp_h9 hall_27) (by decide) rfl (by omega) (by decide) ?_
              refine g_goto d_X6_ahead_51 ?_
              refine h_iret d_X6_ahead_60 rfl ?_
              refine ⟨_, rfl, ?_⟩
              rw [mu_pu (by decide)]
              refine MtH.of [some (.ref 360), some (.int (nI l)), some (.int (nI n)), some (.int u)] pl_X7 rfl rfl ?_
              refine g_aload_n d_X7_ahead_0 rfl ?_
              refine g_iconst d_X7_ahead_1 ik_0 ?_
              refine mm_putI d_X7_ahead_2 fl_7_62 sp_M rfl ?_
              refine g_aload_n d_X7_ahead_5 rfl ?_
              refine g_iload_n d_X7_ahead_6 rfl ?_
              refine h_V1i d_X7_ahead_7 cl_7_204 (m7_isLoad ((hs_j (by decide)).trans wN)) sp_M (by decide) rfl (Nat.le_of_ble_eq_true rfl) (by decide) ?_
              refine g_if_eq d_X7_ahead_10 (fun c10 => ?_) (fun c10 => ?_)
              · exfalso
                simp only [b2i_eq0, b2i_ne0, Int32.lt_iff_toInt_lt, Int32.le_iff_toInt_le, t_0, t_1, t_2, t_3, t_4, t_5, t_6, t_7, t_8, t_9, t_10, t_11, t_12, t_20, t_24, t_40, t_50, t_60, t_99, t_110, t_255, t_999, t_999999, t_m1, el, en, gM, gN, eM, eN, eM1, eN1] at *
                omega
              · refine g_iload_n d_X7_ahead_13 rfl ?_
                refine g_iconst d_X7_ahead_14 ik_0 ?_
                refine g_bipush d_X7_ahead_15 bk_60 ?_
                refine h_S3i d_X7_ahead_17 cl_7_70 m7_in (Nat.le_of_ble_eq_true rfl) (by decide) ?_
                refine g_if_eq d_X7_ahead_20 (fun c20 => ?_) (fun c20 => ?_)
                · exfalso
                  simp only [b2i_eq0, b2i_ne0, Int32.lt_iff_toInt_lt, Int32.le_iff_toInt_le, t_0, t_1, t_2, t_3, t_4, t_5, t_6, t_7, t_8, t_9, t_10, t_11, t_12, t_20, t_24, t_40, t_50, t_60, t_99, t_110, t_255, t_999, t_999999, t_m1, el, en, gM, gN, eM, eN, eM1, eN1] at *
                  omega
                · refine g_iload_n d_X7_ahead_23 rfl ?_
                  refine g_iconst d_X7_ahead_24 ik_0 ?_
                  refine g_iconst d_X7_ahead_25 ik_1 ?_
                  refine h_S3i d_X7_ahead_26 cl_7_70 m7_in (Nat.le_of_ble_eq_true rfl) (by decide) ?_
                  refine g_if_ne d_X7_ahead_29 (fun c29 => ?_) (fun c29 => ?_)
                  · refine g_aload_n d_X7_ahead_35 rfl ?_
                    refine g_iload_n d_X7_ahead_36 rfl ?_
                    refine h_V1P d_X7_ahead_37 cl_7_212 (m7_goesAhead (hS.2.1.th hM5 hN6) hI hS.2.2.1.1 rfl (by omega)) sp_M (by decide) rfl (Nat.le_of_ble_eq_true rfl) (by decide) ?_
                    intro v' h' hp
                    obtain ⟨rfl, w2, rfl, hr2, hf2, hd2⟩ := hp
                    refine g_iload_n d_X7_ahead_40 rfl ?_
                    refine g_if_ne d_X7_ahead_41 (fun c41 => absurd k41 c41) (fun c41 => ?_)
                    refine g_aload_n d_X7_ahead_44 rfl ?_
                    refine h_getR d_X7_ahead_45 fl_7_37 sp_M rfl ?_
                    refine g_bipush d_X7_ahead_48 bk_30 ?_
                    refine g_iload_n d_X7_ahead_50 rfl ?_
                    refine g_iadd d_X7_ahead_51 ?_
                    refine mm_aldV (k := (30 + l)) (v := tickN M N n (hv h 15) 9 l) d_X7_ahead_52 (j := 10) sp_m_w rfl (by decide) (nAdd rfl rfl) (by omega) (by decide) ((hr2.2.2.1 l hl).2.2.1.symm) ?_
                    refine g_goto d_X7_ahead_53 ?_
                    refine h_iret d_X7_ahead_64 rfl ?_
                    exact ⟨rfl, _, _, rfl, (hR.fc fc_27).fr (fr_thrown.tr hf2.fr)⟩
                  · exfalso
                    simp only [b2i_eq0, b2i_ne0, Int32.lt_iff_toInt_lt, Int32.le_iff_toInt_le, t_0, t_1, t_2, t_3, t_4, t_5, t_6, t_7, t_8, t_9, t_10, t_11, t_12, t_20, t_24, t_40, t_50, t_60, t_99, t_110, t_255, t_999, t_999999, t_m1, el, en, gM, gN, eM, eN, eM1, eN1] at *
                    omega
          · refine g_ldc d_X6_ahead_30 kc_X6_66 ?_
            refine h_iret d_X6_ahead_32 rfl ?_
            refine ⟨_, rfl, ?_⟩
            refine MtH.of [some (.ref 360), some (.int x), some (.int y), some (.int u)] pl_X7 rfl rfl ?_
            refine g_aload_n d_X7_ahead_0 rfl ?_
            refine g_iconst d_X7_ahead_1 ik_0 ?_
            refine mm_putI d_X7_ahead_2 fl_7_62 sp_M rfl ?_
            refine g_aload_n d_X7_ahead_5 rfl ?_
            refine g_iload_n d_X7_ahead_6 rfl ?_
            refine h_V1i d_X7_ahead_7 cl_7_204 (m7_isLoad ((hs_j (by decide)).trans wN)) sp_M (by decide) rfl (Nat.le_of_ble_eq_true rfl) (by decide) ?_
            refine g_if_eq d_X7_ahead_10 (fun c10 => ?_) (fun c10 => ?_)
            · refine g_ldc d_X7_ahead_32 kc_X7_78 ?_
              refine h_iret d_X7_ahead_34 rfl ?_
              exact ⟨rfl, _, _, rfl, hR.fr fr_thrown⟩
            · refine g_iload_n d_X7_ahead_13 rfl ?_
              refine g_iconst d_X7_ahead_14 ik_0 ?_
              refine g_bipush d_X7_ahead_15 bk_60 ?_
              refine h_S3i d_X7_ahead_17 cl_7_70 m7_in (Nat.le_of_ble_eq_true rfl) (by decide) ?_
              refine g_if_eq d_X7_ahead_20 (fun c20 => ?_) (fun c20 => ?_)
              · refine g_ldc d_X7_ahead_32 kc_X7_78 ?_
                refine h_iret d_X7_ahead_34 rfl ?_
                exact ⟨rfl, _, _, rfl, hR.fr fr_thrown⟩
              · refine g_iload_n d_X7_ahead_23 rfl ?_
                refine g_iconst d_X7_ahead_24 ik_0 ?_
                refine g_iconst d_X7_ahead_25 ik_1 ?_
                refine h_S3i d_X7_ahead_26 cl_7_70 m7_in (Nat.le_of_ble_eq_true rfl) (by decide) ?_
                refine g_if_ne d_X7_ahead_29 (fun c29 => ?_) (fun c29 => ?_)
                · exfalso
                  simp only [b2i_eq0, b2i_ne0, Int32.lt_iff_toInt_lt, Int32.le_iff_toInt_le, t_0, t_1, t_2, t_3, t_4, t_5, t_6, t_7, t_8, t_9, t_10, t_11, t_12, t_20, t_24, t_40, t_50, t_60, t_99, t_110, t_255, t_999, t_999999, t_m1, gM, gN, eM, eN, eM1, eN1] at *
                  omega
                · refine g_ldc d_X7_ahead_32 kc_X7_78 ?_
                  refine h_iret d_X7_ahead_34 rfl ?_
                  exact ⟨rfl, _, _, rfl, hR.fr fr_thrown⟩
theorem tickN_N {M N : Nat} {g : Hv} (hI : HI M N g) (n : Nat) : tickN M N n g 0 3 = nI N := (hI.tickN n).hN
theorem op_all {h w : Hv} (hR : RelP h w) {x y : Int32} : OPI M_X6_all M_X7_all 7 5 [.int x, .int y] (mu h w) := by
  obtain ⟨M, N, hM5, hN6, gM, wM, gN, wN, hZ⟩ := hR.mn
  have eM : (nI M).toInt = M := nI_toInt (by omega)
  have eN : (nI N).toInt = N := nI_toInt (by omega)
  have eM1 := nI_predI (t := M) (by omega)
  have eN1 := nI_predI (t := N) (by omega)
  refine MtH.of [some (.ref 0), some (.int x), some (.int y), none] pl_X6 rfl rfl ?_
  refine g_aload_n d_X6_all_0 rfl ?_
  refine h_getR d_X6_all_1 fl_6_26 sp_L rfl ?_
  refine h_V0i d_X6_all_4 cl_6_154 p_isNone (sp_hall hall_15) (by decide) rfl (Nat.le_of_ble_eq_true rfl) (by decide) ?_
  refine g_if_eq d_X6_all_7 (fun c7 => ?_) (fun c7 => ?_)
  · have hM0 : ¬ nI M = 0 := fun z => b2i_eq0.mp c7 (gM.trans z)
    obtain ⟨i0, c0, hi0, hi1, hS, hA, hO⟩ := (hZ.resolve_left (fun z => hM0 (by rw [z.1]; rfl))).2.2
    have hI := hS.1
    refine g_iload_n d_X6_all_13 rfl ?_
    refine g_if_lt d_X6_all_14 (fun c14 => ?_) (fun c14 => ?_)
    · refine g_ldc d_X6_all_32 kc_X6_66 ?_
      refine h_iret d_X6_all_34 rfl ?_
      refine ⟨_, rfl, ?_⟩
      refine MtH.of [some (.ref 360), some (.int x), some (.int y)] pl_X7 rfl rfl ?_
      refine g_aload_n d_X7_all_0 rfl ?_
      refine g_iconst d_X7_all_1 ik_0 ?_
      refine mm_putI d_X7_all_2 fl_7_62 sp_M rfl ?_
      refine g_aload_n d_X7_all_5 rfl ?_
      refine h_V0i d_X7_all_6 cl_7_195 (m7_isNothing ((hs_j (by decide)).trans wM)) sp_M (by decide) rfl (Nat.le_of_ble_eq_true rfl) (by decide) ?_
      refine g_if_eq d_X7_all_9 (fun c9 => ?_) (fun c9 => ?_)
      · refine g_iload_n d_X7_all_15 rfl ?_
        refine g_iconst d_X7_all_16 ik_0 ?_
        refine g_bipush d_X7_all_17 bk_60 ?_
        refine h_S3i d_X7_all_19 cl_7_70 m7_in (Nat.le_of_ble_eq_true rfl) (by decide) ?_
        refine g_if_eq d_X7_all_22 (fun c22 => ?_) (fun c22 => ?_)
        · refine g_ldc d_X7_all_34 kc_X7_78 ?_
          refine h_iret d_X7_all_36 rfl ?_
          exact ⟨rfl, _, _, rfl, hR.fr fr_thrown⟩
        · refine g_iload_n d_X7_all_25 rfl ?_
          refine g_iconst d_X7_all_26 ik_0 ?_
          refine g_iconst d_X7_all_27 ik_1 ?_
          refine h_S3i d_X7_all_28 cl_7_70 m7_in (Nat.le_of_ble_eq_true rfl) (by decide) ?_
          refine g_if_ne d_X7_all_31 (fun c31 => ?_) (fun c31 => ?_)
          · exfalso
            simp only [b2i_eq0, b2i_ne0, Int32.lt_iff_toInt_lt, Int32.le_iff_toInt_le, t_0, t_1, t_2, t_3, t_4, t_5, t_6, t_7, t_8, t_9, t_10, t_11, t_12, t_20, t_24, t_40, t_50, t_60, t_99, t_110, t_255, t_999, t_999999, t_m1, gM, gN, eM, eN, eM1, eN1] at *
            omega
          · refine g_ldc d_X7_all_34 kc_X7_78 ?_
            refine h_iret d_X7_all_36 rfl ?_
            exact ⟨rfl, _, _, rfl, hR.fr fr_thrown⟩
      · exact absurd (b2i_ne0.mp c9) hM0
    · refine g_iload_n d_X6_all_17 rfl ?_
      refine g_bipush d_X6_all_18 bk_60 ?_
      refine g_icmp_gt d_X6_all_20 (fun c20 => ?_) (fun c20 => ?_)
      · refine g_ldc d_X6_all_32 kc_X6_66 ?_
        refine h_iret d_X6_all_34 rfl ?_
        refine ⟨_, rfl, ?_⟩
        refine MtH.of [some (.ref 360), some (.int x), some (.int y)] pl_X7 rfl rfl ?_
        refine g_aload_n d_X7_all_0 rfl ?_
        refine g_iconst d_X7_all_1 ik_0 ?_
        refine mm_putI d_X7_all_2 fl_7_62 sp_M rfl ?_
        refine g_aload_n d_X7_all_5 rfl ?_
        refine h_V0i d_X7_all_6 cl_7_195 (m7_isNothing ((hs_j (by decide)).trans wM)) sp_M (by decide) rfl (Nat.le_of_ble_eq_true rfl) (by decide) ?_
        refine g_if_eq d_X7_all_9 (fun c9 => ?_) (fun c9 => ?_)
        · refine g_iload_n d_X7_all_15 rfl ?_
          refine g_iconst d_X7_all_16 ik_0 ?_
          refine g_bipush d_X7_all_17 bk_60 ?_
          refine h_S3i d_X7_all_19 cl_7_70 m7_in (Nat.le_of_ble_eq_true rfl) (by decide) ?_
          refine g_if_eq d_X7_all_22 (fun c22 => ?_) (fun c22 => ?_)
          · refine g_ldc d_X7_all_34 kc_X7_78 ?_
            refine h_iret d_X7_all_36 rfl ?_
            exact ⟨rfl, _, _, rfl, hR.fr fr_thrown⟩
          · refine g_iload_n d_X7_all_25 rfl ?_
            refine g_iconst d_X7_all_26 ik_0 ?_
            refine g_iconst d_X7_all_27 ik_1 ?_
            refine h_S3i d_X7_all_28 cl_7_70 m7_in (Nat.le_of_ble_eq_true rfl) (by decide) ?_
            refine g_if_ne d_X7_all_31 (fun c31 => ?_) (fun c31 => ?_)
            · exfalso
              simp only [b2i_eq0, b2i_ne0, Int32.lt_iff_toInt_lt, Int32.le_iff_toInt_le, t_0, t_1, t_2, t_3, t_4, t_5, t_6, t_7, t_8, t_9, t_10, t_11, t_12, t_20, t_24, t_40, t_50, t_60, t_99, t_110, t_255, t_999, t_999999, t_m1, gM, gN, eM, eN, eM1, eN1] at *
              omega
            · refine g_ldc d_X7_all_34 kc_X7_78 ?_
              refine h_iret d_X7_all_36 rfl ?_
              exact ⟨rfl, _, _, rfl, hR.fr fr_thrown⟩
        · exact absurd (b2i_ne0.mp c9) hM0
      · refine g_iload_n d_X6_all_23 rfl ?_
        refine g_if_lt d_X6_all_24 (fun c24 => ?_) (fun c24 => ?_)
        · refine g_ldc d_X6_all_32 kc_X6_66 ?_
          refine h_iret d_X6_all_34 rfl ?_
          refine ⟨_, rfl, ?_⟩
          refine MtH.of [some (.ref 360), some (.int x), some (.int y)] pl_X7 rfl rfl ?_
          refine g_aload_n d_X7_all_0 rfl ?_
          refine g_iconst d_X7_all_1 ik_0 ?_
          refine mm_putI d_X7_all_2 fl_7_62 sp_M rfl ?_
          refine g_aload_n d_X7_all_5 rfl ?_
          refine h_V0i d_X7_all_6 cl_7_195 (m7_isNothing ((hs_j (by decide)).trans wM)) sp_M (by decide) rfl (Nat.le_of_ble_eq_true rfl) (by decide) ?_
          refine g_if_eq d_X7_all_9 (fun c9 => ?_) (fun c9 => ?_)
          · refine g_iload_n d_X7_all_15 rfl ?_
            refine g_iconst d_X7_all_16 ik_0 ?_
            refine g_bipush d_X7_all_17 bk_60 ?_
            refine h_S3i d_X7_all_19 cl_7_70 m7_in (Nat.le_of_ble_eq_true rfl) (by decide) ?_
            refine g_if_eq d_X7_all_22 (fun c22 => ?_) (fun c22 => ?_)
            · refine g_ldc d_X7_all_34 kc_X7_78 ?_
              refine h_iret d_X7_all_36 rfl ?_
              exact ⟨rfl, _, _, rfl, hR.fr fr_thrown⟩
            · refine g_iload_n d_X7_all_25 rfl ?_
              refine g_iconst d_X7_all_26 ik_0 ?_
              refine g_iconst d_X7_all_27 ik_1 ?_
              refine h_S3i d_X7_all_28 cl_7_70 m7_in (Nat.le_of_ble_eq_true rfl) (by decide) ?_
              refine g_if_ne d_X7_all_31 (fun c31 => ?_) (fun c31 => ?_)
              · exfalso
                simp only [b2i_eq0, b2i_ne0, Int32.lt_iff_toInt_lt, Int32.le_iff_toInt_le, t_0, t_1, t_2, t_3, t_4, t_5, t_6, t_7, t_8, t_9, t_10, t_11, t_12, t_20, t_24, t_40, t_50, t_60, t_99, t_110, t_255, t_999, t_999999, t_m1, gM, gN, eM, eN, eM1, eN1] at *
                omega
              · refine g_ldc d_X7_all_34 kc_X7_78 ?_
                refine h_iret d_X7_all_36 rfl ?_
                exact ⟨rfl, _, _, rfl, hR.fr fr_thrown⟩
          · exact absurd (b2i_ne0.mp c9) hM0
        · refine g_iload_n d_X6_all_27 rfl ?_
          refine g_iconst d_X6_all_28 ik_1 ?_
          refine g_icmp_le d_X6_all_29 (fun c29 => ?_) (fun c29 => ?_)
          · obtain ⟨n, hn, rfl⟩ := rngI (x := x) (B := 61) (by simp only [b2i_eq0, b2i_ne0, Int32.lt_iff_toInt_lt, Int32.le_iff_toInt_le, t_0, t_1, t_2, t_3, t_4, t_5, t_6, t_7, t_8, t_9, t_10, t_11, t_12, t_20, t_24, t_40, t_50, t_60, t_99, t_110, t_255, t_999, t_999999, t_m1, gM, gN, eM, eN, eM1, eN1] at *; omega) (by simp only [b2i_eq0, b2i_ne0, Int32.lt_iff_toInt_lt, Int32.le_iff_toInt_le, t_0, t_1, t_2, t_3, t_4, t_5, t_6, t_7, t_8, t_9, t_10, t_11, t_12, t_20, t_24, t_40, t_50, t_60, t_99, t_110, t_255, t_999, t_999999, t_m1, gM, gN, eM, eN, eM1, eN1] at *; omega)
            have en : (nI n).toInt = n := nI_toInt (by omega)
            refine g_aload_n d_X6_all_35 rfl ?_
            refine g_iload_n d_X6_all_36 rfl ?_
            refine h_V1a d_X6_all_37 cl_6_235 (p_behind hI rfl (by omega)) sp_L (by decide) rfl (Nat.le_of_ble_eq_true rfl) (by decide) ?_
            refine w_astore_n (L' := [_, _, _, _]) d_X6_all_40 rfl rfl rfl ?_
            refine g_iload_n d_X6_all_41 rfl ?_
            refine g_if_ne d_X6_all_42 (fun c42 => ?_) (fun c42 => ?_)
            · have k42 := c42
              refine g_aload_n d_X6_all_53 rfl ?_
              refine h_V0i d_X6_all_54 cl_6_239 (m_lateOfAll hall_27 (tickN_N hI n) hN6) (sp_hall hall_27) (by decide) rfl (Nat.le_of_ble_eq_true rfl) (by decide) ?_
              refine h_iret d_X6_all_57 rfl ?_
              refine ⟨_, rfl, ?_⟩
              rw [mu_pu (by decide)]
              refine MtH.of [some (.ref 360), some (.int (nI n)), some (.int y)] pl_X7 rfl rfl ?_
              refine g_aload_n d_X7_all_0 rfl ?_
              refine g_iconst d_X7_all_1 ik_0 ?_
              refine mm_putI d_X7_all_2 fl_7_62 sp_M rfl ?_
              refine g_aload_n d_X7_all_5 rfl ?_
              refine h_V0i d_X7_all_6 cl_7_195 (m7_isNothing ((hs_j (by decide)).trans wM)) sp_M (by decide) rfl (Nat.le_of_ble_eq_true rfl) (by decide) ?_
              refine g_if_eq d_X7_all_9 (fun c9 => ?_) (fun c9 => ?_)
              · refine g_iload_n d_X7_all_15 rfl ?_
                refine g_iconst d_X7_all_16 ik_0 ?_
                refine g_bipush d_X7_all_17 bk_60 ?_
                refine h_S3i d_X7_all_19 cl_7_70 m7_in (Nat.le_of_ble_eq_true rfl) (by decide) ?_
                refine g_if_eq d_X7_all_22 (fun c22 => ?_) (fun c22 => ?_)
                · exfalso
                  simp only [b2i_eq0, b2i_ne0, Int32.lt_iff_toInt_lt, Int32.le_iff_toInt_le, t_0, t_1, t_2, t_3, t_4, t_5, t_6, t_7, t_8, t_9, t_10, t_11, t_12, t_20, t_24, t_40, t_50, t_60, t_99, t_110, t_255, t_999, t_999999, t_m1, en, gM, gN, eM, eN, eM1, eN1] at *
                  omega
                · refine g_iload_n d_X7_all_25 rfl ?_
                  refine g_iconst d_X7_all_26 ik_0 ?_
                  refine g_iconst d_X7_all_27 ik_1 ?_
                  refine h_S3i d_X7_all_28 cl_7_70 m7_in (Nat.le_of_ble_eq_true rfl) (by decide) ?_
                  refine g_if_ne d_X7_all_31 (fun c31 => ?_) (fun c31 => ?_)
                  · refine g_aload_n d_X7_all_37 rfl ?_
                    refine g_iload_n d_X7_all_38 rfl ?_
                    refine h_V1P d_X7_all_39 cl_7_212 (m7_goesAhead (hS.2.1.th hM5 hN6) hI hS.2.2.1.1 rfl (by omega)) sp_M (by decide) rfl (Nat.le_of_ble_eq_true rfl) (by decide) ?_
                    intro v' h' hp
                    obtain ⟨rfl, w2, rfl, hr2, hf2, hd2⟩ := hp
                    have w71 : w2 7 1 = nI N := (hf2 7 1 (by decide) (by decide) (by decide) (by decide) (by decide) (by decide)).trans ((hs_j (by decide)).trans wN)
                    refine g_iload_n d_X7_all_42 rfl ?_
                    refine g_if_ne d_X7_all_43 (fun c43 => ?_) (fun c43 => absurd c43 k42)
                    refine g_aload_n d_X7_all_58 rfl ?_
                    refine g_aload_n d_X7_all_59 rfl ?_
                    refine h_getR d_X7_all_60 fl_7_37 sp_M rfl ?_
                    refine h_V1i d_X7_all_63 cl_7_215 (m7_lateAll ar_w hr2.r0 hN6 w71) sp_M (by decide) rfl (Nat.le_of_ble_eq_true rfl) (by decide) ?_
                    refine h_iret d_X7_all_66 rfl ?_
                    exact ⟨rfl, _, _, rfl, (hR.fc fc_27).fr (fr_thrown.tr hf2.fr)⟩
                  · exfalso
                    simp only [b2i_eq0, b2i_ne0, Int32.lt_iff_toInt_lt, Int32.le_iff_toInt_le, t_0, t_1, t_2, t_3, t_4, t_5, t_6, t_7, t_8, t_9, t_10, t_11, t_12, t_20, t_24, t_40, t_50, t_60, t_99, t_110, t_255, t_999, t_999999, t_m1, en, gM, gN, eM, eN, eM1, eN1] at *
                    omega
              · exact absurd (b2i_ne0.mp c9) hM0
            · have k42 := c42
              refine g_aload_n d_X6_all_45 rfl ?_
              refine g_iconst d_X6_all_46 ik_2 ?_
              refine h_V1i d_X6_all_47 cl_6_167 (m_whichAre hall_27 (tickN_N hI n) hN6) (sp_hall hall_27) (by decide) rfl (Nat.le_of_ble_eq_true rfl) (by decide) ?_
              refine g_goto d_X6_all_50 ?_
              refine h_iret d_X6_all_57 rfl ?_
              refine ⟨_, rfl, ?_⟩
              rw [mu_pu (by decide)]
              refine MtH.of [some (.ref 360), some (.int (nI n)), some (.int y)] pl_X7 rfl rfl ?_
              refine g_aload_n d_X7_all_0 rfl ?_
              refine g_iconst d_X7_all_1 ik_0 ?_
              refine mm_putI d_X7_all_2 fl_7_62 sp_M rfl ?_
              refine g_aload_n d_X7_all_5 rfl ?_
              refine h_V0i d_X7_all_6 cl_7_195 (m7_isNothing ((hs_j (by decide)).trans wM)) sp_M (by decide) rfl (Nat.le_of_ble_eq_true rfl) (by decide) ?_
              refine g_if_eq d_X7_all_9 (fun c9 => ?_) (fun c9 => ?_)
              · refine g_iload_n d_X7_all_15 rfl ?_
                refine g_iconst d_X7_all_16 ik_0 ?_
                refine g_bipush d_X7_all_17 bk_60 ?_
                refine h_S3i d_X7_all_19 cl_7_70 m7_in (Nat.le_of_ble_eq_true rfl) (by decide) ?_
                refine g_if_eq d_X7_all_22 (fun c22 => ?_) (fun c22 => ?_)
                · exfalso
                  simp only [b2i_eq0, b2i_ne0, Int32.lt_iff_toInt_lt, Int32.le_iff_toInt_le, t_0, t_1, t_2, t_3, t_4, t_5, t_6, t_7, t_8, t_9, t_10, t_11, t_12, t_20, t_24, t_40, t_50, t_60, t_99, t_110, t_255, t_999, t_999999, t_m1, en, gM, gN, eM, eN, eM1, eN1] at *
                  omega
                · refine g_iload_n d_X7_all_25 rfl ?_
                  refine g_iconst d_X7_all_26 ik_0 ?_
                  refine g_iconst d_X7_all_27 ik_1 ?_
                  refine h_S3i d_X7_all_28 cl_7_70 m7_in (Nat.le_of_ble_eq_true rfl) (by decide) ?_
                  refine g_if_ne d_X7_all_31 (fun c31 => ?_) (fun c31 => ?_)
                  · refine g_aload_n d_X7_all_37 rfl ?_
                    refine g_iload_n d_X7_all_38 rfl ?_
                    refine h_V1P d_X7_all_39 cl_7_212 (m7_goesAhead (hS.2.1.th hM5 hN6) hI hS.2.2.1.1 rfl (by omega)) sp_M (by decide) rfl (Nat.le_of_ble_eq_true rfl) (by decide) ?_
                    intro v' h' hp
                    obtain ⟨rfl, w2, rfl, hr2, hf2, hd2⟩ := hp
                    have w71 : w2 7 1 = nI N := (hf2 7 1 (by decide) (by decide) (by decide) (by decide) (by decide) (by decide)).trans ((hs_j (by decide)).trans wN)
                    refine g_iload_n d_X7_all_42 rfl ?_
                    refine g_if_ne d_X7_all_43 (fun c43 => absurd k42 c43) (fun c43 => ?_)
                    refine g_aload_n d_X7_all_46 rfl ?_
                    refine g_aload_n d_X7_all_47 rfl ?_
                    refine h_getR d_X7_all_48 fl_7_37 sp_M rfl ?_
                    refine g_iconst d_X7_all_51 ik_2 ?_
                    refine h_V2i d_X7_all_52 cl_7_191 (m7_howAll ar_w hr2.r0 hN6 w71) sp_M (by decide) rfl (Nat.le_of_ble_eq_true rfl) (by decide) ?_
                    refine g_goto d_X7_all_55 ?_
                    refine h_iret d_X7_all_66 rfl ?_
                    exact ⟨rfl, _, _, rfl, (hR.fc fc_27).fr (fr_thrown.tr hf2.fr)⟩
                  · exfalso
                    simp only [b2i_eq0, b2i_ne0, Int32.lt_iff_toInt_lt, Int32.le_iff_toInt_le, t_0, t_1, t_2, t_3, t_4, t_5, t_6, t_7, t_8, t_9, t_10, t_11, t_12, t_20, t_24, t_40, t_50, t_60, t_99, t_110, t_255, t_999, t_999999, t_m1, en, gM, gN, eM, eN, eM1, eN1] at *
                    omega
              · exact absurd (b2i_ne0.mp c9) hM0
          · refine g_ldc d_X6_all_32 kc_X6_66 ?_
            refine h_iret d_X6_all_34 rfl ?_
            refine ⟨_, rfl, ?_⟩
            refine MtH.of [some (.ref 360), some (.int x), some (.int y)] pl_X7 rfl rfl ?_
            refine g_aload_n d_X7_all_0 rfl ?_
            refine g_iconst d_X7_all_1 ik_0 ?_
            refine mm_putI d_X7_all_2 fl_7_62 sp_M rfl ?_
            refine g_aload_n d_X7_all_5 rfl ?_
            refine h_V0i d_X7_all_6 cl_7_195 (m7_isNothing ((hs_j (by decide)).trans wM)) sp_M (by decide) rfl (Nat.le_of_ble_eq_true rfl) (by decide) ?_
            refine g_if_eq d_X7_all_9 (fun c9 => ?_) (fun c9 => ?_)
            · refine g_iload_n d_X7_all_15 rfl ?_
              refine g_iconst d_X7_all_16 ik_0 ?_
              refine g_bipush d_X7_all_17 bk_60 ?_
              refine h_S3i d_X7_all_19 cl_7_70 m7_in (Nat.le_of_ble_eq_true rfl) (by decide) ?_
              refine g_if_eq d_X7_all_22 (fun c22 => ?_) (fun c22 => ?_)
              · refine g_ldc d_X7_all_34 kc_X7_78 ?_
                refine h_iret d_X7_all_36 rfl ?_
                exact ⟨rfl, _, _, rfl, hR.fr fr_thrown⟩
              · refine g_iload_n d_X7_all_25 rfl ?_
                refine g_iconst d_X7_all_26 ik_0 ?_
                refine g_iconst d_X7_all_27 ik_1 ?_
                refine h_S3i d_X7_all_28 cl_7_70 m7_in (Nat.le_of_ble_eq_true rfl) (by decide) ?_
                refine g_if_ne d_X7_all_31 (fun c31 => ?_) (fun c31 => ?_)
                · exfalso
                  simp only [b2i_eq0, b2i_ne0, Int32.lt_iff_toInt_lt, Int32.le_iff_toInt_le, t_0, t_1, t_2, t_3, t_4, t_5, t_6, t_7, t_8, t_9, t_10, t_11, t_12, t_20, t_24, t_40, t_50, t_60, t_99, t_110, t_255, t_999, t_999999, t_m1, gM, gN, eM, eN, eM1, eN1] at *
                  omega
                · refine g_ldc d_X7_all_34 kc_X7_78 ?_
                  refine h_iret d_X7_all_36 rfl ?_
                  exact ⟨rfl, _, _, rfl, hR.fr fr_thrown⟩
            · exact absurd (b2i_ne0.mp c9) hM0
  · refine g_ldc d_X6_all_10 kc_X6_141 ?_
    refine h_iret d_X6_all_12 rfl ?_
    refine ⟨_, rfl, ?_⟩
    refine MtH.of [some (.ref 360), some (.int x), some (.int y)] pl_X7 rfl rfl ?_
    refine g_aload_n d_X7_all_0 rfl ?_
    refine g_iconst d_X7_all_1 ik_0 ?_
    refine mm_putI d_X7_all_2 fl_7_62 sp_M rfl ?_
    refine g_aload_n d_X7_all_5 rfl ?_
    refine h_V0i d_X7_all_6 cl_7_195 (m7_isNothing ((hs_j (by decide)).trans wM)) sp_M (by decide) rfl (Nat.le_of_ble_eq_true rfl) (by decide) ?_
    refine g_if_eq d_X7_all_9 (fun c9 => ?_) (fun c9 => ?_)
    · exact absurd (gM.symm.trans (b2i_ne0.mp c7)) (b2i_eq0.mp c9)
    · refine g_ldc d_X7_all_12 kc_X7_194 ?_
      refine h_iret d_X7_all_14 rfl ?_
      exact ⟨rfl, _, _, rfl, hR.fr fr_thrown⟩
theorem op_inside {h w : Hv} (hR : RelP h w) {x y u : Int32} : OPI M_X6_inside M_X7_inside 7 5 [.int x, .int y, .int u] (mu h w) := by
  obtain ⟨M, N, hM5, hN6, gM, wM, gN, wN, hZ⟩ := hR.mn
  have eM : (nI M).toInt = M := nI_toInt (by omega)
  have eN : (nI N).toInt = N := nI_toInt (by omega)
  have eM1 := nI_predI (t := M) (by omega)
  have eN1 := nI_predI (t := N) (by omega)
  refine MtH.of [some (.ref 0), some (.int x), some (.int y), some (.int u), none] pl_X6 rfl rfl ?_
  refine g_aload_n d_X6_inside_0 rfl ?_
  refine h_getR d_X6_inside_1 fl_6_26 sp_L rfl ?_
  refine g_iload_n d_X6_inside_4 rfl ?_
  refine h_V1i d_X6_inside_5 cl_6_170 p_hasMachine (sp_hall hall_15) (by decide) rfl (Nat.le_of_ble_eq_true rfl) (by decide) ?_
  refine g_if_eq d_X6_inside_8 (fun c8 => ?_) (fun c8 => ?_)
  · refine g_ldc d_X6_inside_30 kc_X6_66 ?_
    refine h_iret d_X6_inside_32 rfl ?_
    refine ⟨_, rfl, ?_⟩
    refine MtH.of [some (.ref 360), some (.int x), some (.int y), some (.int u), none] pl_X7 rfl rfl ?_
    refine g_aload_n d_X7_inside_0 rfl ?_
    refine g_iconst d_X7_inside_1 ik_0 ?_
    refine mm_putI d_X7_inside_2 fl_7_62 sp_M rfl ?_
    refine g_aload_n d_X7_inside_5 rfl ?_
    refine g_iload_n d_X7_inside_6 rfl ?_
    refine h_V1i d_X7_inside_7 cl_7_201 (m7_isMachine ((hs_j (by decide)).trans wM)) sp_M (by decide) rfl (Nat.le_of_ble_eq_true rfl) (by decide) ?_
    refine g_if_eq d_X7_inside_10 (fun c10 => ?_) (fun c10 => ?_)
    · refine g_ldc d_X7_inside_32 kc_X7_78 ?_
      refine h_iret d_X7_inside_34 rfl ?_
      exact ⟨rfl, _, _, rfl, hR.fr fr_thrown⟩
    · refine g_iload_n d_X7_inside_13 rfl ?_
      refine g_iconst d_X7_inside_14 ik_0 ?_
      refine g_bipush d_X7_inside_15 bk_60 ?_
      refine h_S3i d_X7_inside_17 cl_7_70 m7_in (Nat.le_of_ble_eq_true rfl) (by decide) ?_
      refine g_if_eq d_X7_inside_20 (fun c20 => ?_) (fun c20 => ?_)
      · refine g_ldc d_X7_inside_32 kc_X7_78 ?_
        refine h_iret d_X7_inside_34 rfl ?_
        exact ⟨rfl, _, _, rfl, hR.fr fr_thrown⟩
      · refine g_iload_n d_X7_inside_23 rfl ?_
        refine g_iconst d_X7_inside_24 ik_0 ?_
        refine g_iconst d_X7_inside_25 ik_2 ?_
        refine h_S3i d_X7_inside_26 cl_7_70 m7_in (Nat.le_of_ble_eq_true rfl) (by decide) ?_
        refine g_if_ne d_X7_inside_29 (fun c29 => ?_) (fun c29 => ?_)
        · exfalso
          simp only [b2i_eq0, b2i_ne0, Int32.lt_iff_toInt_lt, Int32.le_iff_toInt_le, t_0, t_1, t_2, t_3, t_4, t_5, t_6, t_7, t_8, t_9, t_10, t_11, t_12, t_20, t_24, t_40, t_50, t_60, t_99, t_110, t_255, t_999, t_999999, t_m1, gM, gN, eM, eN, eM1, eN1] at *
          omega
        · refine g_ldc d_X7_inside_32 kc_X7_78 ?_
          refine h_iret d_X7_inside_34 rfl ?_
          exact ⟨rfl, _, _, rfl, hR.fr fr_thrown⟩
  · refine g_iload_n d_X6_inside_11 rfl ?_
    refine g_if_lt d_X6_inside_12 (fun c12 => ?_) (fun c12 => ?_)
    · refine g_ldc d_X6_inside_30 kc_X6_66 ?_
      refine h_iret d_X6_inside_32 rfl ?_
      refine ⟨_, rfl, ?_⟩
      refine MtH.of [some (.ref 360), some (.int x), some (.int y), some (.int u), none] pl_X7 rfl rfl ?_
      refine g_aload_n d_X7_inside_0 rfl ?_
      refine g_iconst d_X7_inside_1 ik_0 ?_
      refine mm_putI d_X7_inside_2 fl_7_62 sp_M rfl ?_
      refine g_aload_n d_X7_inside_5 rfl ?_
      refine g_iload_n d_X7_inside_6 rfl ?_
      refine h_V1i d_X7_inside_7 cl_7_201 (m7_isMachine ((hs_j (by decide)).trans wM)) sp_M (by decide) rfl (Nat.le_of_ble_eq_true rfl) (by decide) ?_
      refine g_if_eq d_X7_inside_10 (fun c10 => ?_) (fun c10 => ?_)
      · refine g_ldc d_X7_inside_32 kc_X7_78 ?_
        refine h_iret d_X7_inside_34 rfl ?_
        exact ⟨rfl, _, _, rfl, hR.fr fr_thrown⟩
      · refine g_iload_n d_X7_inside_13 rfl ?_
        refine g_iconst d_X7_inside_14 ik_0 ?_
        refine g_bipush d_X7_inside_15 bk_60 ?_
        refine h_S3i d_X7_inside_17 cl_7_70 m7_in (Nat.le_of_ble_eq_true rfl) (by decide) ?_
        refine g_if_eq d_X7_inside_20 (fun c20 => ?_) (fun c20 => ?_)
        · refine g_ldc d_X7_inside_32 kc_X7_78 ?_
          refine h_iret d_X7_inside_34 rfl ?_
          exact ⟨rfl, _, _, rfl, hR.fr fr_thrown⟩
        · refine g_iload_n d_X7_inside_23 rfl ?_
          refine g_iconst d_X7_inside_24 ik_0 ?_
          refine g_iconst d_X7_inside_25 ik_2 ?_
          refine h_S3i d_X7_inside_26 cl_7_70 m7_in (Nat.le_of_ble_eq_true rfl) (by decide) ?_
          refine g_if_ne d_X7_inside_29 (fun c29 => ?_) (fun c29 => ?_)
          · exfalso
            simp only [b2i_eq0, b2i_ne0, Int32.lt_iff_toInt_lt, Int32.le_iff_toInt_le, t_0, t_1, t_2, t_3, t_4, t_5, t_6, t_7, t_8, t_9, t_10, t_11, t_12, t_20, t_24, t_40, t_50, t_60, t_99, t_110, t_255, t_999, t_999999, t_m1, gM, gN, eM, eN, eM1, eN1] at *
            omega
          · refine g_ldc d_X7_inside_32 kc_X7_78 ?_
            refine h_iret d_X7_inside_34 rfl ?_
            exact ⟨rfl, _, _, rfl, hR.fr fr_thrown⟩
    · refine g_iload_n d_X6_inside_15 rfl ?_
      refine g_bipush d_X6_inside_16 bk_60 ?_
      refine g_icmp_gt d_X6_inside_18 (fun c18 => ?_) (fun c18 => ?_)
      · refine g_ldc d_X6_inside_30 kc_X6_66 ?_
        refine h_iret d_X6_inside_32 rfl ?_
        refine ⟨_, rfl, ?_⟩
        refine MtH.of [some (.ref 360), some (.int x), some (.int y), some (.int u), none] pl_X7 rfl rfl ?_
        refine g_aload_n d_X7_inside_0 rfl ?_
        refine g_iconst d_X7_inside_1 ik_0 ?_
        refine mm_putI d_X7_inside_2 fl_7_62 sp_M rfl ?_
        refine g_aload_n d_X7_inside_5 rfl ?_
        refine g_iload_n d_X7_inside_6 rfl ?_
        refine h_V1i d_X7_inside_7 cl_7_201 (m7_isMachine ((hs_j (by decide)).trans wM)) sp_M (by decide) rfl (Nat.le_of_ble_eq_true rfl) (by decide) ?_
        refine g_if_eq d_X7_inside_10 (fun c10 => ?_) (fun c10 => ?_)
        · refine g_ldc d_X7_inside_32 kc_X7_78 ?_
          refine h_iret d_X7_inside_34 rfl ?_
          exact ⟨rfl, _, _, rfl, hR.fr fr_thrown⟩
        · refine g_iload_n d_X7_inside_13 rfl ?_
          refine g_iconst d_X7_inside_14 ik_0 ?_
          refine g_bipush d_X7_inside_15 bk_60 ?_
          refine h_S3i d_X7_inside_17 cl_7_70 m7_in (Nat.le_of_ble_eq_true rfl) (by decide) ?_
          refine g_if_eq d_X7_inside_20 (fun c20 => ?_) (fun c20 => ?_)
          · refine g_ldc d_X7_inside_32 kc_X7_78 ?_
            refine h_iret d_X7_inside_34 rfl ?_
            exact ⟨rfl, _, _, rfl, hR.fr fr_thrown⟩
          · refine g_iload_n d_X7_inside_23 rfl ?_
            refine g_iconst d_X7_inside_24 ik_0 ?_
            refine g_iconst d_X7_inside_25 ik_2 ?_
            refine h_S3i d_X7_inside_26 cl_7_70 m7_in (Nat.le_of_ble_eq_true rfl) (by decide) ?_
            refine g_if_ne d_X7_inside_29 (fun c29 => ?_) (fun c29 => ?_)
            · exfalso
              simp only [b2i_eq0, b2i_ne0, Int32.lt_iff_toInt_lt, Int32.le_iff_toInt_le, t_0, t_1, t_2, t_3, t_4, t_5, t_6, t_7, t_8, t_9, t_10, t_11, t_12, t_20, t_24, t_40, t_50, t_60, t_99, t_110, t_255, t_999, t_999999, t_m1, gM, gN, eM, eN, eM1, eN1] at *
              omega
            · refine g_ldc d_X7_inside_32 kc_X7_78 ?_
              refine h_iret d_X7_inside_34 rfl ?_
              exact ⟨rfl, _, _, rfl, hR.fr fr_thrown⟩
      · refine g_iload_n d_X6_inside_21 rfl ?_
        refine g_if_lt d_X6_inside_22 (fun c22 => ?_) (fun c22 => ?_)
        · refine g_ldc d_X6_inside_30 kc_X6_66 ?_
          refine h_iret d_X6_inside_32 rfl ?_
          refine ⟨_, rfl, ?_⟩
          refine MtH.of [some (.ref 360), some (.int x), some (.int y), some (.int u), none] pl_X7 rfl rfl ?_
          refine g_aload_n d_X7_inside_0 rfl ?_
          refine g_iconst d_X7_inside_1 ik_0 ?_
          refine mm_putI d_X7_inside_2 fl_7_62 sp_M rfl ?_
          refine g_aload_n d_X7_inside_5 rfl ?_
          refine g_iload_n d_X7_inside_6 rfl ?_
          refine h_V1i d_X7_inside_7 cl_7_201 (m7_isMachine ((hs_j (by decide)).trans wM)) sp_M (by decide) rfl (Nat.le_of_ble_eq_true rfl) (by decide) ?_
          refine g_if_eq d_X7_inside_10 (fun c10 => ?_) (fun c10 => ?_)
          · refine g_ldc d_X7_inside_32 kc_X7_78 ?_
            refine h_iret d_X7_inside_34 rfl ?_
            exact ⟨rfl, _, _, rfl, hR.fr fr_thrown⟩
          · refine g_iload_n d_X7_inside_13 rfl ?_
            refine g_iconst d_X7_inside_14 ik_0 ?_
            refine g_bipush d_X7_inside_15 bk_60 ?_
            refine h_S3i d_X7_inside_17 cl_7_70 m7_in (Nat.le_of_ble_eq_true rfl) (by decide) ?_
            refine g_if_eq d_X7_inside_20 (fun c20 => ?_) (fun c20 => ?_)
            · refine g_ldc d_X7_inside_32 kc_X7_78 ?_
              refine h_iret d_X7_inside_34 rfl ?_
              exact ⟨rfl, _, _, rfl, hR.fr fr_thrown⟩
            · refine g_iload_n d_X7_inside_23 rfl ?_
              refine g_iconst d_X7_inside_24 ik_0 ?_
              refine g_iconst d_X7_inside_25 ik_2 ?_
              refine h_S3i d_X7_inside_26 cl_7_70 m7_in (Nat.le_of_ble_eq_true rfl) (by decide) ?_
              refine g_if_ne d_X7_inside_29 (fun c29 => ?_) (fun c29 => ?_)
              · exfalso
                simp only [b2i_eq0, b2i_ne0, Int32.lt_iff_toInt_lt, Int32.le_iff_toInt_le, t_0, t_1, t_2, t_3, t_4, t_5, t_6, t_7, t_8, t_9, t_10, t_11, t_12, t_20, t_24, t_40, t_50, t_60, t_99, t_110, t_255, t_999, t_999999, t_m1, gM, gN, eM, eN, eM1, eN1] at *
                omega
              · refine g_ldc d_X7_inside_32 kc_X7_78 ?_
                refine h_iret d_X7_inside_34 rfl ?_
                exact ⟨rfl, _, _, rfl, hR.fr fr_thrown⟩
        · refine g_iload_n d_X6_inside_25 rfl ?_
          refine g_iconst d_X6_inside_26 ik_2 ?_
          refine g_icmp_le d_X6_inside_27 (fun c27 => ?_) (fun c27 => ?_)
          · obtain ⟨r, hr, rfl⟩ := rngI (x := x) (B := M) (by simp only [b2i_eq0, b2i_ne0, Int32.lt_iff_toInt_lt, Int32.le_iff_toInt_le, t_0, t_1, t_2, t_3, t_4, t_5, t_6, t_7, t_8, t_9, t_10, t_11, t_12, t_20, t_24, t_40, t_50, t_60, t_99, t_110, t_255, t_999, t_999999, t_m1, gM, gN, eM, eN, eM1, eN1] at *; omega) (by simp only [b2i_eq0, b2i_ne0, Int32.lt_iff_toInt_lt, Int32.le_iff_toInt_le, t_0, t_1, t_2, t_3, t_4, t_5, t_6, t_7, t_8, t_9, t_10, t_11, t_12, t_20, t_24, t_40, t_50, t_60, t_99, t_110, t_255, t_999, t_999999, t_m1, gM, gN, eM, eN, eM1, eN1] at *; omega)
            have er : (nI r).toInt = r := nI_toInt (by omega)
            obtain ⟨n, hn, rfl⟩ := rngI (x := y) (B := 61) (by simp only [b2i_eq0, b2i_ne0, Int32.lt_iff_toInt_lt, Int32.le_iff_toInt_le, t_0, t_1, t_2, t_3, t_4, t_5, t_6, t_7, t_8, t_9, t_10, t_11, t_12, t_20, t_24, t_40, t_50, t_60, t_99, t_110, t_255, t_999, t_999999, t_m1, er, gM, gN, eM, eN, eM1, eN1] at *; omega) (by simp only [b2i_eq0, b2i_ne0, Int32.lt_iff_toInt_lt, Int32.le_iff_toInt_le, t_0, t_1, t_2, t_3, t_4, t_5, t_6, t_7, t_8, t_9, t_10, t_11, t_12, t_20, t_24, t_40, t_50, t_60, t_99, t_110, t_255, t_999, t_999999, t_m1, er, gM, gN, eM, eN, eM1, eN1] at *; omega)
            have en : (nI n).toInt = n := nI_toInt (by omega)
            obtain ⟨i0, c0, hi0, hi1, hS, hA, hO⟩ := (hZ.resolve_left (fun z => by have := z.1; have := z.2.1; omega)).2.2
            have hI := hS.1
            refine g_aload_n d_X6_inside_33 rfl ?_
            refine g_iload_n d_X6_inside_34 rfl ?_
            refine h_V1a d_X6_inside_35 cl_6_235 (p_behind hI rfl (by omega)) sp_L (by decide) rfl (Nat.le_of_ble_eq_true rfl) (by decide) ?_
            refine w_astore (L' := [_, _, _, _, _]) d_X6_inside_38 rfl rfl rfl ?_
            refine g_iload_n d_X6_inside_40 rfl ?_
            refine sw_X6_inside_41 (fun e0 => ?_) (fun e1 => ?_) (fun q0 q1 => ?_)
            · subst e0
              refine g_aload d_X6_inside_68 rfl ?_
              refine g_iload_n d_X6_inside_70 rfl ?_
              refine h_V1i d_X6_inside_71 cl_6_202 (m_loadIn hall_27 rfl (by omega)) (sp_hall hall_27) (by decide) rfl (Nat.le_of_ble_eq_true rfl) (by decide) ?_
              refine h_iret d_X6_inside_74 rfl ?_
              refine ⟨_, rfl, ?_⟩
              rw [mu_pu (by decide)]
              refine MtH.of [some (.ref 360), some (.int (nI r)), some (.int (nI n)), some (.int 0), none] pl_X7 rfl rfl ?_
              refine g_aload_n d_X7_inside_0 rfl ?_
              refine g_iconst d_X7_inside_1 ik_0 ?_
              refine mm_putI d_X7_inside_2 fl_7_62 sp_M rfl ?_
              refine g_aload_n d_X7_inside_5 rfl ?_
              refine g_iload_n d_X7_inside_6 rfl ?_
              refine h_V1i d_X7_inside_7 cl_7_201 (m7_isMachine ((hs_j (by decide)).trans wM)) sp_M (by decide) rfl (Nat.le_of_ble_eq_true rfl) (by decide) ?_
              refine g_if_eq d_X7_inside_10 (fun c10 => ?_) (fun c10 => ?_)
              · exfalso
                simp only [b2i_eq0, b2i_ne0, Int32.lt_iff_toInt_lt, Int32.le_iff_toInt_le, t_0, t_1, t_2, t_3, t_4, t_5, t_6, t_7, t_8, t_9, t_10, t_11, t_12, t_20, t_24, t_40, t_50, t_60, t_99, t_110, t_255, t_999, t_999999, t_m1, er, en, gM, gN, eM, eN, eM1, eN1] at *
                omega
              · refine g_iload_n d_X7_inside_13 rfl ?_
                refine g_iconst d_X7_inside_14 ik_0 ?_
                refine g_bipush d_X7_inside_15 bk_60 ?_
                refine h_S3i d_X7_inside_17 cl_7_70 m7_in (Nat.le_of_ble_eq_true rfl) (by decide) ?_
                refine g_if_eq d_X7_inside_20 (fun c20 => ?_) (fun c20 => ?_)
                · exfalso
                  simp only [b2i_eq0, b2i_ne0, Int32.lt_iff_toInt_lt, Int32.le_iff_toInt_le, t_0, t_1, t_2, t_3, t_4, t_5, t_6, t_7, t_8, t_9, t_10, t_11, t_12, t_20, t_24, t_40, t_50, t_60, t_99, t_110, t_255, t_999, t_999999, t_m1, er, en, gM, gN, eM, eN, eM1, eN1] at *
                  omega
                · refine g_iload_n d_X7_inside_23 rfl ?_
                  refine g_iconst d_X7_inside_24 ik_0 ?_
                  refine g_iconst d_X7_inside_25 ik_2 ?_
                  refine h_S3i d_X7_inside_26 cl_7_70 m7_in (Nat.le_of_ble_eq_true rfl) (by decide) ?_
                  refine g_if_ne d_X7_inside_29 (fun c29 => ?_) (fun c29 => absurd c29 (by decide))
                  refine g_aload_n d_X7_inside_35 rfl ?_
                  refine g_iload_n d_X7_inside_36 rfl ?_
                  refine h_V1P d_X7_inside_37 cl_7_212 (m7_goesAhead (hS.2.1.th hM5 hN6) hI hS.2.2.1.1 rfl (by omega)) sp_M (by decide) rfl (Nat.le_of_ble_eq_true rfl) (by decide) ?_
                  intro v' h' hp
                  obtain ⟨rfl, w2, rfl, hr2, hf2, hd2⟩ := hp
                  have hI2 := hI.tickN n
                  have hin := bz_m1 (hI2.in4 hr) hN6
                  refine g_aload_n d_X7_inside_40 rfl ?_
                  refine h_getR d_X7_inside_41 fl_7_37 sp_M rfl ?_
                  refine g_iconst d_X7_inside_44 ik_3 ?_
                  refine g_iload_n d_X7_inside_45 rfl ?_
                  refine g_iadd d_X7_inside_46 ?_
                  refine mm_aldV (k := (3 + r)) (v := tickN M N n (hv h 15) 4 r) d_X7_inside_47 (j := 10) sp_m_w rfl (by decide) (nAdd rfl rfl) (by omega) (by decide) ((hr2.2.1 r hr).2.2.2.1.symm) ?_
                  refine g_if_lt d_X7_inside_48 (fun c48 => ?_) (fun c48 => ?_)
                  · refine g_iconst d_X7_inside_55 ik_0 ?_
                    refine w_istore (L' := [_, _, _, _, _]) d_X7_inside_56 rfl rfl rfl ?_
                    refine g_iload_n d_X7_inside_58 rfl ?_
                    refine g_if_ne d_X7_inside_59 (fun c59 => absurd c59 (by decide)) (fun c59 => ?_)
                    refine g_iload d_X7_inside_62 rfl ?_
                    refine g_if_eq d_X7_inside_64 (fun c64 => ?_) (fun c64 => absurd c64 (by decide))
                    refine g_ldc d_X7_inside_78 kc_X7_207 ?_
                    refine g_goto d_X7_inside_80 ?_
                    refine h_iret d_X7_inside_118 rfl ?_
                    exact ⟨by first | rw [if_pos (hin.mp c48)] | rw [if_neg (fun z => c48 (hin.mpr z))], _, _, rfl, (hR.fc fc_27).fr (fr_thrown.tr hf2.fr)⟩
                  · refine g_iconst d_X7_inside_51 ik_1 ?_
                    refine g_goto d_X7_inside_52 ?_
                    refine w_istore (L' := [_, _, _, _, _]) d_X7_inside_56 rfl rfl rfl ?_
                    refine g_iload_n d_X7_inside_58 rfl ?_
                    refine g_if_ne d_X7_inside_59 (fun c59 => absurd c59 (by decide)) (fun c59 => ?_)
                    refine g_iload d_X7_inside_62 rfl ?_
                    refine g_if_eq d_X7_inside_64 (fun c64 => absurd c64 (by decide)) (fun c64 => ?_)
                    refine g_aload_n d_X7_inside_67 rfl ?_
                    refine h_getR d_X7_inside_68 fl_7_37 sp_M rfl ?_
                    refine g_iconst d_X7_inside_71 ik_3 ?_
                    refine g_iload_n d_X7_inside_72 rfl ?_
                    refine g_iadd d_X7_inside_73 ?_
                    refine mm_aldV (k := (3 + r)) (v := tickN M N n (hv h 15) 4 r) d_X7_inside_74 (j := 10) sp_m_w rfl (by decide) (nAdd rfl rfl) (by omega) (by decide) ((hr2.2.1 r hr).2.2.2.1.symm) ?_
                    refine g_goto d_X7_inside_75 ?_
                    refine h_iret d_X7_inside_118 rfl ?_
                    exact ⟨by first | rw [if_pos (hin.mp c48)] | rw [if_neg (fun z => c48 (hin.mpr z))], _, _, rfl, (hR.fc fc_27).fr (fr_thrown.tr hf2.fr)⟩
            · subst e1
              refine g_aload d_X6_inside_75 rfl ?_
              refine h_getR d_X6_inside_77 fl_6_205 (sp_hall hall_27) rfl ?_
              refine g_iload_n d_X6_inside_80 rfl ?_
              refine hh_aldE (k := r) d_X6_inside_81 (sp_h5 hall_27) (by decide) rfl (by omega) (by decide) ?_
              refine h_iret d_X6_inside_82 rfl ?_
              refine ⟨_, rfl, ?_⟩
              rw [mu_pu (by decide)]
              refine MtH.of [some (.ref 360), some (.int (nI r)), some (.int (nI n)), some (.int 1), none] pl_X7 rfl rfl ?_
              refine g_aload_n d_X7_inside_0 rfl ?_
              refine g_iconst d_X7_inside_1 ik_0 ?_
              refine mm_putI d_X7_inside_2 fl_7_62 sp_M rfl ?_
              refine g_aload_n d_X7_inside_5 rfl ?_
              refine g_iload_n d_X7_inside_6 rfl ?_
              refine h_V1i d_X7_inside_7 cl_7_201 (m7_isMachine ((hs_j (by decide)).trans wM)) sp_M (by decide) rfl (Nat.le_of_ble_eq_true rfl) (by decide) ?_
              refine g_if_eq d_X7_inside_10 (fun c10 => ?_) (fun c10 => ?_)
              · exfalso
                simp only [b2i_eq0, b2i_ne0, Int32.lt_iff_toInt_lt, Int32.le_iff_toInt_le, t_0, t_1, t_2, t_3, t_4, t_5, t_6, t_7, t_8, t_9, t_10, t_11, t_12, t_20, t_24, t_40, t_50, t_60, t_99, t_110, t_255, t_999, t_999999, t_m1, er, en, gM, gN, eM, eN, eM1, eN1] at *
                omega
              · refine g_iload_n d_X7_inside_13 rfl ?_
                refine g_iconst d_X7_inside_14 ik_0 ?_
                refine g_bipush d_X7_inside_15 bk_60 ?_
                refine h_S3i d_X7_inside_17 cl_7_70 m7_in (Nat.le_of_ble_eq_true rfl) (by decide) ?_
                refine g_if_eq d_X7_inside_20 (fun c20 => ?_) (fun c20 => ?_)
                · exfalso
                  simp only [b2i_eq0, b2i_ne0, Int32.lt_iff_toInt_lt, Int32.le_iff_toInt_le, t_0, t_1, t_2, t_3, t_4, t_5, t_6, t_7, t_8, t_9, t_10, t_11, t_12, t_20, t_24, t_40, t_50, t_60, t_99, t_110, t_255, t_999, t_999999, t_m1, er, en, gM, gN, eM, eN, eM1, eN1] at *
                  omega
                · refine g_iload_n d_X7_inside_23 rfl ?_
                  refine g_iconst d_X7_inside_24 ik_0 ?_
                  refine g_iconst d_X7_inside_25 ik_2 ?_
                  refine h_S3i d_X7_inside_26 cl_7_70 m7_in (Nat.le_of_ble_eq_true rfl) (by decide) ?_
                  refine g_if_ne d_X7_inside_29 (fun c29 => ?_) (fun c29 => absurd c29 (by decide))
                  refine g_aload_n d_X7_inside_35 rfl ?_
                  refine g_iload_n d_X7_inside_36 rfl ?_
                  refine h_V1P d_X7_inside_37 cl_7_212 (m7_goesAhead (hS.2.1.th hM5 hN6) hI hS.2.2.1.1 rfl (by omega)) sp_M (by decide) rfl (Nat.le_of_ble_eq_true rfl) (by decide) ?_
                  intro v' h' hp
                  obtain ⟨rfl, w2, rfl, hr2, hf2, hd2⟩ := hp
                  have hI2 := hI.tickN n
                  have hin := bz_m1 (hI2.in4 hr) hN6
                  refine g_aload_n d_X7_inside_40 rfl ?_
                  refine h_getR d_X7_inside_41 fl_7_37 sp_M rfl ?_
                  refine g_iconst d_X7_inside_44 ik_3 ?_
                  refine g_iload_n d_X7_inside_45 rfl ?_
                  refine g_iadd d_X7_inside_46 ?_
                  refine mm_aldV (k := (3 + r)) (v := tickN M N n (hv h 15) 4 r) d_X7_inside_47 (j := 10) sp_m_w rfl (by decide) (nAdd rfl rfl) (by omega) (by decide) ((hr2.2.1 r hr).2.2.2.1.symm) ?_
                  refine g_if_lt d_X7_inside_48 (fun c48 => ?_) (fun c48 => ?_)
                  · refine g_iconst d_X7_inside_55 ik_0 ?_
                    refine w_istore (L' := [_, _, _, _, _]) d_X7_inside_56 rfl rfl rfl ?_
                    refine g_iload_n d_X7_inside_58 rfl ?_
                    refine g_if_ne d_X7_inside_59 (fun c59 => ?_) (fun c59 => absurd c59 (by decide))
                    refine g_iload_n d_X7_inside_83 rfl ?_
                    refine g_iconst d_X7_inside_84 ik_1 ?_
                    refine g_icmp_ne d_X7_inside_85 (fun c85 => absurd c85 (by decide)) (fun c85 => ?_)
                    refine g_iload d_X7_inside_88 rfl ?_
                    refine g_if_eq d_X7_inside_90 (fun c90 => ?_) (fun c90 => absurd c90 (by decide))
                    refine g_iconst d_X7_inside_105 ik_0 ?_
                    refine g_goto d_X7_inside_106 ?_
                    refine h_iret d_X7_inside_118 rfl ?_
                    exact ⟨by first | rfl | rw [hI2.lf0 hr (hin.mp c48)], _, _, rfl, (hR.fc fc_27).fr (fr_thrown.tr hf2.fr)⟩
                  · refine g_iconst d_X7_inside_51 ik_1 ?_
                    refine g_goto d_X7_inside_52 ?_
                    refine w_istore (L' := [_, _, _, _, _]) d_X7_inside_56 rfl rfl rfl ?_
                    refine g_iload_n d_X7_inside_58 rfl ?_
                    refine g_if_ne d_X7_inside_59 (fun c59 => ?_) (fun c59 => absurd c59 (by decide))
                    refine g_iload_n d_X7_inside_83 rfl ?_
                    refine g_iconst d_X7_inside_84 ik_1 ?_
                    refine g_icmp_ne d_X7_inside_85 (fun c85 => absurd c85 (by decide)) (fun c85 => ?_)
                    refine g_iload d_X7_inside_88 rfl ?_
                    refine g_if_eq d_X7_inside_90 (fun c90 => absurd c90 (by decide)) (fun c90 => ?_)
                    refine g_aload_n d_X7_inside_93 rfl ?_
                    refine h_getR d_X7_inside_94 fl_7_37 sp_M rfl ?_
                    refine g_bipush d_X7_inside_97 bk_8 ?_
                    refine g_iload_n d_X7_inside_99 rfl ?_
                    refine g_iadd d_X7_inside_100 ?_
                    refine mm_aldV (k := (8 + r)) (v := tickN M N n (hv h 15) 5 r) d_X7_inside_101 (j := 10) sp_m_w rfl (by decide) (nAdd rfl rfl) (by omega) (by decide) ((hr2.2.1 r hr).2.2.2.2.1.symm) ?_
                    refine g_goto d_X7_inside_102 ?_
                    refine h_iret d_X7_inside_118 rfl ?_
                    exact ⟨by first | rfl | rw [hI2.lf0 hr (hin.mp c48)], _, _, rfl, (hR.fc fc_27).fr (fr_thrown.tr hf2.fr)⟩
            · refine g_aload d_X6_inside_83 rfl ?_
              refine h_getR d_X6_inside_85 fl_6_208 (sp_hall hall_27) rfl ?_
              refine g_iload_n d_X6_inside_88 rfl ?_
              refine hh_aldE (k := r) d_X6_inside_89 (sp_h6 hall_27) (by decide) rfl (by omega) (by decide) ?_
              refine h_iret d_X6_inside_90 rfl ?_
              refine ⟨_, rfl, ?_⟩
              rw [mu_pu (by decide)]
              refine MtH.of [some (.ref 360), some (.int (nI r)), some (.int (nI n)), some (.int u), none] pl_X7 rfl rfl ?_
              refine g_aload_n d_X7_inside_0 rfl ?_
              refine g_iconst d_X7_inside_1 ik_0 ?_
              refine mm_putI d_X7_inside_2 fl_7_62 sp_M rfl ?_
              refine g_aload_n d_X7_inside_5 rfl ?_
              refine g_iload_n d_X7_inside_6 rfl ?_
              refine h_V1i d_X7_inside_7 cl_7_201 (m7_isMachine ((hs_j (by decide)).trans wM)) sp_M (by decide) rfl (Nat.le_of_ble_eq_true rfl) (by decide) ?_
              refine g_if_eq d_X7_inside_10 (fun c10 => ?_) (fun c10 => ?_)
              · exfalso
                simp only [b2i_eq0, b2i_ne0, Int32.lt_iff_toInt_lt, Int32.le_iff_toInt_le, t_0, t_1, t_2, t_3, t_4, t_5, t_6, t_7, t_8, t_9, t_10, t_11, t_12, t_20, t_24, t_40, t_50, t_60, t_99, t_110, t_255, t_999, t_999999, t_m1, er, en, gM, gN, eM, eN, eM1, eN1] at *
                omega
              · refine g_iload_n d_X7_inside_13 rfl ?_
                refine g_iconst d_X7_inside_14 ik_0 ?_
                refine g_bipush d_X7_inside_15 bk_60 ?_
                refine h_S3i d_X7_inside_17 cl_7_70 m7_in (Nat.le_of_ble_eq_true rfl) (by decide) ?_
                refine g_if_eq d_X7_inside_20 (fun c20 => ?_) (fun c20 => ?_)
                · exfalso
                  simp only [b2i_eq0, b2i_ne0, Int32.lt_iff_toInt_lt, Int32.le_iff_toInt_le, t_0, t_1, t_2, t_3, t_4, t_5, t_6, t_7, t_8, t_9, t_10, t_11, t_12, t_20, t_24, t_40, t_50, t_60, t_99, t_110, t_255, t_999, t_999999, t_m1, er, en, gM, gN, eM, eN, eM1, eN1] at *
                  omega
                · refine g_iload_n d_X7_inside_23 rfl ?_
                  refine g_iconst d_X7_inside_24 ik_0 ?_
                  refine g_iconst d_X7_inside_25 ik_2 ?_
                  refine h_S3i d_X7_inside_26 cl_7_70 m7_in (Nat.le_of_ble_eq_true rfl) (by decide) ?_
                  refine g_if_ne d_X7_inside_29 (fun c29 => ?_) (fun c29 => ?_)
                  · refine g_aload_n d_X7_inside_35 rfl ?_
                    refine g_iload_n d_X7_inside_36 rfl ?_
                    refine h_V1P d_X7_inside_37 cl_7_212 (m7_goesAhead (hS.2.1.th hM5 hN6) hI hS.2.2.1.1 rfl (by omega)) sp_M (by decide) rfl (Nat.le_of_ble_eq_true rfl) (by decide) ?_
                    intro v' h' hp
                    obtain ⟨rfl, w2, rfl, hr2, hf2, hd2⟩ := hp
                    have hI2 := hI.tickN n
                    have hin := bz_m1 (hI2.in4 hr) hN6
                    refine g_aload_n d_X7_inside_40 rfl ?_
                    refine h_getR d_X7_inside_41 fl_7_37 sp_M rfl ?_
                    refine g_iconst d_X7_inside_44 ik_3 ?_
                    refine g_iload_n d_X7_inside_45 rfl ?_
                    refine g_iadd d_X7_inside_46 ?_
                    refine mm_aldV (k := (3 + r)) (v := tickN M N n (hv h 15) 4 r) d_X7_inside_47 (j := 10) sp_m_w rfl (by decide) (nAdd rfl rfl) (by omega) (by decide) ((hr2.2.1 r hr).2.2.2.1.symm) ?_
                    refine g_if_lt d_X7_inside_48 (fun c48 => ?_) (fun c48 => ?_)
                    · refine g_iconst d_X7_inside_55 ik_0 ?_
                      refine w_istore (L' := [_, _, _, _, _]) d_X7_inside_56 rfl rfl rfl ?_
                      refine g_iload_n d_X7_inside_58 rfl ?_
                      refine g_if_ne d_X7_inside_59 (fun c59 => ?_) (fun c59 => ?_)
                      · refine g_iload_n d_X7_inside_83 rfl ?_
                        refine g_iconst d_X7_inside_84 ik_1 ?_
                        refine g_icmp_ne d_X7_inside_85 (fun c85 => ?_) (fun c85 => ?_)
                        · refine g_aload_n d_X7_inside_109 rfl ?_
                          refine h_getR d_X7_inside_110 fl_7_37 sp_M rfl ?_
                          refine g_bipush d_X7_inside_113 bk_13 ?_
                          refine g_iload_n d_X7_inside_115 rfl ?_
                          refine g_iadd d_X7_inside_116 ?_
                          refine mm_aldV (k := (13 + r)) (v := tickN M N n (hv h 15) 6 r) d_X7_inside_117 (j := 10) sp_m_w rfl (by decide) (nAdd rfl rfl) (by omega) (by decide) ((hr2.2.1 r hr).2.2.2.2.2.symm) ?_
                          refine h_iret d_X7_inside_118 rfl ?_
                          exact ⟨rfl, _, _, rfl, (hR.fc fc_27).fr (fr_thrown.tr hf2.fr)⟩
                        · exact absurd c85 q1
                      · exact absurd c59 q0
                    · refine g_iconst d_X7_inside_51 ik_1 ?_
                      refine g_goto d_X7_inside_52 ?_
                      refine w_istore (L' := [_, _, _, _, _]) d_X7_inside_56 rfl rfl rfl ?_
                      refine g_iload_n d_X7_inside_58 rfl ?_
                      refine g_if_ne d_X7_inside_59 (fun c59 => ?_) (fun c59 => ?_)
                      · refine g_iload_n d_X7_inside_83 rfl ?_
                        refine g_iconst d_X7_inside_84 ik_1 ?_
                        refine g_icmp_ne d_X7_inside_85 (fun c85 => ?_) (fun c85 => ?_)
                        · refine g_aload_n d_X7_inside_109 rfl ?_
                          refine h_getR d_X7_inside_110 fl_7_37 sp_M rfl ?_
                          refine g_bipush d_X7_inside_113 bk_13 ?_
                          refine g_iload_n d_X7_inside_115 rfl ?_
                          refine g_iadd d_X7_inside_116 ?_
                          refine mm_aldV (k := (13 + r)) (v := tickN M N n (hv h 15) 6 r) d_X7_inside_117 (j := 10) sp_m_w rfl (by decide) (nAdd rfl rfl) (by omega) (by decide) ((hr2.2.1 r hr).2.2.2.2.2.symm) ?_
                          refine h_iret d_X7_inside_118 rfl ?_
                          exact ⟨rfl, _, _, rfl, (hR.fc fc_27).fr (fr_thrown.tr hf2.fr)⟩
                        · exact absurd c85 q1
                      · exact absurd c59 q0
                  · exfalso
                    simp only [b2i_eq0, b2i_ne0, Int32.lt_iff_toInt_lt, Int32.le_iff_toInt_le, t_0, t_1, t_2, t_3, t_4, t_5, t_6, t_7, t_8, t_9, t_10, t_11, t_12, t_20, t_24, t_40, t_50, t_60, t_99, t_110, t_255, t_999, t_999999, t_m1, er, en, gM, gN, eM, eN, eM1, eN1] at *
                    omega
          · refine g_ldc d_X6_inside_30 kc_X6_66 ?_
            refine h_iret d_X6_inside_32 rfl ?_
            refine ⟨_, rfl, ?_⟩
            refine MtH.of [some (.ref 360), some (.int x), some (.int y), some (.int u), none] pl_X7 rfl rfl ?_
            refine g_aload_n d_X7_inside_0 rfl ?_
            refine g_iconst d_X7_inside_1 ik_0 ?_
            refine mm_putI d_X7_inside_2 fl_7_62 sp_M rfl ?_
            refine g_aload_n d_X7_inside_5 rfl ?_
            refine g_iload_n d_X7_inside_6 rfl ?_
            refine h_V1i d_X7_inside_7 cl_7_201 (m7_isMachine ((hs_j (by decide)).trans wM)) sp_M (by decide) rfl (Nat.le_of_ble_eq_true rfl) (by decide) ?_
            refine g_if_eq d_X7_inside_10 (fun c10 => ?_) (fun c10 => ?_)
            · refine g_ldc d_X7_inside_32 kc_X7_78 ?_
              refine h_iret d_X7_inside_34 rfl ?_
              exact ⟨rfl, _, _, rfl, hR.fr fr_thrown⟩
            · refine g_iload_n d_X7_inside_13 rfl ?_
              refine g_iconst d_X7_inside_14 ik_0 ?_
              refine g_bipush d_X7_inside_15 bk_60 ?_
              refine h_S3i d_X7_inside_17 cl_7_70 m7_in (Nat.le_of_ble_eq_true rfl) (by decide) ?_
              refine g_if_eq d_X7_inside_20 (fun c20 => ?_) (fun c20 => ?_)
              · refine g_ldc d_X7_inside_32 kc_X7_78 ?_
                refine h_iret d_X7_inside_34 rfl ?_
                exact ⟨rfl, _, _, rfl, hR.fr fr_thrown⟩
              · refine g_iload_n d_X7_inside_23 rfl ?_
                refine g_iconst d_X7_inside_24 ik_0 ?_
                refine g_iconst d_X7_inside_25 ik_2 ?_
                refine h_S3i d_X7_inside_26 cl_7_70 m7_in (Nat.le_of_ble_eq_true rfl) (by decide) ?_
                refine g_if_ne d_X7_inside_29 (fun c29 => ?_) (fun c29 => ?_)
                · exfalso
                  simp only [b2i_eq0, b2i_ne0, Int32.lt_iff_toInt_lt, Int32.le_iff_toInt_le, t_0, t_1, t_2, t_3, t_4, t_5, t_6, t_7, t_8, t_9, t_10, t_11, t_12, t_20, t_24, t_40, t_50, t_60, t_99, t_110, t_255, t_999, t_999999, t_m1, gM, gN, eM, eN, eM1, eN1] at *
                  omega
                · refine g_ldc d_X7_inside_32 kc_X7_78 ?_
                  refine h_iret d_X7_inside_34 rfl ?_
                  exact ⟨rfl, _, _, rfl, hR.fr fr_thrown⟩
