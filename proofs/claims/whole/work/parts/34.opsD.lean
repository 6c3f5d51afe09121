/-! OPS: what the hall is -/
theorem RelP.mn {h w : Hv} (hR : RelP h w) : ∃ M N, M ≤ 5 ∧ N ≤ 6 ∧ hv h 15 0 2 = nI M ∧ w 7 0 = nI M ∧ hv h 15 0 3 = nI N ∧ w 7 1 = nI N ∧ ((M = 0 ∧ N = 0 ∧ RNone h w) ∨ (0 < M ∧ 0 < N ∧ ∃ i c, i < 24 ∧ h 39 2 = nI i ∧ HS M N (hv h 15) (w 7) (w 8) ∧ RActs M N h w i c ∧ ROrd M N h)) := by
  obtain ⟨i, hi, hi2, z | ⟨M, N, c, hS, hA, hO⟩⟩ := hR.2.2.2.1
  · refine ⟨0, 0, by omega, by omega, ?_, z.2.1.1, ?_, z.2.1.2.1, Or.inl ⟨rfl, rfl, z⟩⟩
    · rw [hv_at (by decide)]; exact z.1.2.1
    · rw [hv_at (by decide)]; exact z.1.2.2
  · have hI := hS.1
    exact ⟨M, N, hI.hM5, hI.hN6, hI.hM, hS.2.1.1.2.2.1.symm.trans hI.hM, hI.hN, hS.2.1.1.2.2.2.1.symm.trans hI.hN, Or.inr ⟨hI.hM0, hI.hN0, i, c, hi, hi2, hS, hA, hO⟩⟩
theorem mu_15 {h w : Hv} : mu h w = pu (mu h w) 15 (hv h 15) := by
  rw [← mu_hv (w := w) (show 15 + 12 ≤ 360 by decide)]
  exact pu_hv.symm
theorem bit01 : ∀ b, b < 32 → ∀ k, k < 5 → nI b >>> (nI k &&& 31) &&& 1 = 0 ∨ nI b >>> (nI k &&& 31) &&& 1 = 1 := by decide +kernel
theorem HI.bit {M N : Nat} {g : Hv} (hI : HI M N g) {k : Nat} (hk : k < M) : g 0 4 >>> (nI k &&& 31) &&& 1 = 0 ∨ g 0 4 >>> (nI k &&& 31) &&& 1 = 1 := by
  obtain ⟨b, hb, e⟩ := hI.opn
  have hM5 := hI.hM5
  have : 2 ^ M ≤ 2 ^ 5 := Nat.pow_le_pow_right (by decide) hM5
  rw [e]
  exact bit01 b (by omega) k (by omega)
theorem HI.wsh {M N : Nat} {g : Hv} (hI : HI M N g) {k : Nat} (hk : k < M) : ¬ 4 ≤ g 1 k ↔ g 1 k ≤ 3 := by
  obtain ⟨q, b, c, d, hq1, hq5, eq, -⟩ := hI.mach k hk
  have e : (nI q).toInt = q := nI_toInt (by omega)
  rw [eq]
  simp only [Int32.le_iff_toInt_le, e, t_4, t_3]
  omega
theorem HI.lf0 {M N : Nat} {g : Hv} (hI : HI M N g) {k : Nat} (hk : k < M) (h : g 4 k = -1) : g 5 k = 0 := by
  have hN6 := hI.hN6
  rcases hI.hold k hk with z | ⟨l, t, h1, -, -, h4, -⟩
  · exact z.2
  · exact absurd (h4.symm.trans h) (nI_ne_m1 (by omega))
theorem m7_isMachine {h w : Hv} {M : Nat} (wM : w 7 0 = nI M) {x : Int32} : MtF M_X7_isMachine 1 [.ref 360, .int x] (mu h w) (some (.int (b2i (¬ x < 0 ∧ ¬ nI M - 1 < x)))) (mu h w) := by
  refine MtF.of [some (.ref 360), some (.int x)] pl_X7 rfl rfl ?_
  refine g_iload_n d_X7_isMachine_0 rfl ?_
  refine g_iconst d_X7_isMachine_1 ik_0 ?_
  refine g_aload_n d_X7_isMachine_2 rfl ?_
  refine h_getR d_X7_isMachine_3 fl_7_28 sp_M rfl ?_
  refine g_iconst d_X7_isMachine_6 ik_0 ?_
  refine mm_aldV (k := 0) (v := nI M) d_X7_isMachine_7 (j := 7) sp_m_d rfl (by decide) rfl (by omega) (by decide) (wM) ?_
  refine g_iconst d_X7_isMachine_8 ik_1 ?_
  refine g_isub d_X7_isMachine_9 ?_
  refine h_S3i d_X7_isMachine_10 cl_7_70 m7_in (Nat.le_of_ble_eq_true rfl) (by decide) ?_
  refine h_zret d_X7_isMachine_13 rfl b2i_nar ?_
  exact ⟨rfl, rfl⟩
theorem m7_isLoad {h w : Hv} {N : Nat} (wN : w 7 1 = nI N) {x : Int32} : MtF M_X7_isLoad 1 [.ref 360, .int x] (mu h w) (some (.int (b2i (¬ x < 0 ∧ ¬ nI N - 1 < x)))) (mu h w) := by
  refine MtF.of [some (.ref 360), some (.int x)] pl_X7 rfl rfl ?_
  refine g_iload_n d_X7_isLoad_0 rfl ?_
  refine g_iconst d_X7_isLoad_1 ik_0 ?_
  refine g_aload_n d_X7_isLoad_2 rfl ?_
  refine h_getR d_X7_isLoad_3 fl_7_28 sp_M rfl ?_
  refine g_iconst d_X7_isLoad_6 ik_1 ?_
  refine mm_aldV (k := 1) (v := nI N) d_X7_isLoad_7 (j := 7) sp_m_d rfl (by decide) rfl (by omega) (by decide) (wN) ?_
  refine g_iconst d_X7_isLoad_8 ik_1 ?_
  refine g_isub d_X7_isLoad_9 ?_
  refine h_S3i d_X7_isLoad_10 cl_7_70 m7_in (Nat.le_of_ble_eq_true rfl) (by decide) ?_
  refine h_zret d_X7_isLoad_13 rfl b2i_nar ?_
  exact ⟨rfl, rfl⟩
theorem m7_isNothing {h w : Hv} {M : Nat} (wM : w 7 0 = nI M) : MtF M_X7_isNothing 0 [.ref 360] (mu h w) (some (.int (b2i (nI M = 0)))) (mu h w) := by
  refine MtF.of [some (.ref 360)] pl_X7 rfl rfl ?_
  refine g_aload_n d_X7_isNothing_0 rfl ?_
  refine h_getR d_X7_isNothing_1 fl_7_28 sp_M rfl ?_
  refine g_iconst d_X7_isNothing_4 ik_0 ?_
  refine mm_aldV (k := 0) (v := nI M) d_X7_isNothing_5 (j := 7) sp_m_d rfl (by decide) rfl (by omega) (by decide) (wM) ?_
  refine g_if_ne d_X7_isNothing_6 (fun c6 => ?_) (fun c6 => ?_)
  · refine g_iconst d_X7_isNothing_13 ik_0 ?_
    refine h_zret d_X7_isNothing_14 rfl rfl ?_
    exact pF (by simp [b2i, *]) rfl
  · refine g_iconst d_X7_isNothing_9 ik_1 ?_
    refine g_goto d_X7_isNothing_10 ?_
    refine h_zret d_X7_isNothing_14 rfl rfl ?_
    exact pF (by simp [b2i, *]) rfl
theorem op_machine {h w : Hv} (hR : RelP h w) {x y : Int32} : OPI M_X6_machine M_X7_machine 2 2 [.int x, .int y] (mu h w) := by
  obtain ⟨M, N, hM5, hN6, gM, wM, gN, wN, hZ⟩ := hR.mn
  have eM : (nI M).toInt = M := nI_toInt (by omega)
  have eN : (nI N).toInt = N := nI_toInt (by omega)
  have eM1 := nI_predI (t := M) (by omega)
  have eN1 := nI_predI (t := N) (by omega)
  rw [mu_15]
  refine MtH.of [some (.ref 0), some (.int x), some (.int y)] pl_X6 rfl rfl ?_
  refine g_aload_n d_X6_machine_0 rfl ?_
  refine h_getR d_X6_machine_1 fl_6_26 sp_L rfl ?_
  refine g_iload_n d_X6_machine_4 rfl ?_
  refine h_V1i d_X6_machine_5 cl_6_170 (m_hasMachine hall_15) (sp_hall hall_15) (by decide) rfl (Nat.le_of_ble_eq_true rfl) (by decide) ?_
  refine g_if_ne d_X6_machine_8 (fun c8 => ?_) (fun c8 => ?_)
  · obtain ⟨r, hr, rfl⟩ := rngI (x := x) (B := M) (by simp only [b2i_eq0, b2i_ne0, Int32.lt_iff_toInt_lt, Int32.le_iff_toInt_le, t_0, t_1, t_2, t_3, t_4, t_5, t_6, t_7, t_8, t_9, t_10, t_11, t_12, t_20, t_24, t_40, t_50, t_60, t_99, t_110, t_255, t_999, t_999999, t_m1, gM, gN, eM, eN, eM1, eN1] at *; omega) (by simp only [b2i_eq0, b2i_ne0, Int32.lt_iff_toInt_lt, Int32.le_iff_toInt_le, t_0, t_1, t_2, t_3, t_4, t_5, t_6, t_7, t_8, t_9, t_10, t_11, t_12, t_20, t_24, t_40, t_50, t_60, t_99, t_110, t_255, t_999, t_999999, t_m1, gM, gN, eM, eN, eM1, eN1] at *; omega)
    have er : (nI r).toInt = r := nI_toInt (by omega)
    obtain ⟨i0, c0, hi0, hi1, hS, hA, hO⟩ := (hZ.resolve_left (fun z => by have := z.1; have := z.2.1; omega)).2.2
    have hI := hS.1
    refine g_iload_n d_X6_machine_14 rfl ?_
    refine sw_X6_machine_15 (fun e0 => ?_) (fun e1 => ?_) (fun e2 => ?_) (fun e3 => ?_) (fun e4 => ?_) (fun e5 => ?_) (fun e6 => ?_) (fun q0 q1 q2 q3 q4 q5 q6 => ?_)
    · subst e0
      refine g_aload_n d_X6_machine_56 rfl ?_
      refine h_getR d_X6_machine_57 fl_6_26 sp_L rfl ?_
      refine h_getR d_X6_machine_60 fl_6_196 (sp_hall hall_15) rfl ?_
      refine g_iload_n d_X6_machine_63 rfl ?_
      refine hh_aldE (k := r) d_X6_machine_64 (sp_h2 hall_15) (by decide) rfl (by omega) (by decide) ?_
      refine h_iret d_X6_machine_65 rfl ?_
      refine ⟨_, rfl, ?_⟩
      rw [← mu_15]
      refine MtH.of [some (.ref 360), some (.int (nI r)), some (.int 0)] pl_X7 rfl rfl ?_
      refine g_aload_n d_X7_machine_0 rfl ?_
      refine g_iconst d_X7_machine_1 ik_0 ?_
      refine mm_putI d_X7_machine_2 fl_7_62 sp_M rfl ?_
      refine g_aload_n d_X7_machine_5 rfl ?_
      refine g_iload_n d_X7_machine_6 rfl ?_
      refine h_V1i d_X7_machine_7 cl_7_201 (m7_isMachine ((hs_j (by decide)).trans wM)) sp_M (by decide) rfl (Nat.le_of_ble_eq_true rfl) (by decide) ?_
      refine g_if_eq d_X7_machine_10 (fun c10 => ?_) (fun c10 => ?_)
      · exfalso
        simp only [b2i_eq0, b2i_ne0, Int32.lt_iff_toInt_lt, Int32.le_iff_toInt_le, t_0, t_1, t_2, t_3, t_4, t_5, t_6, t_7, t_8, t_9, t_10, t_11, t_12, t_20, t_24, t_40, t_50, t_60, t_99, t_110, t_255, t_999, t_999999, t_m1, er, gM, gN, eM, eN, eM1, eN1] at *
        omega
      · refine g_iload_n d_X7_machine_13 rfl ?_
        refine g_iconst d_X7_machine_14 ik_0 ?_
        refine g_bipush d_X7_machine_15 bk_6 ?_
        refine h_S3i d_X7_machine_17 cl_7_70 m7_in (Nat.le_of_ble_eq_true rfl) (by decide) ?_
        refine g_if_ne d_X7_machine_20 (fun c20 => ?_) (fun c20 => absurd c20 (by decide))
        refine g_iload_n d_X7_machine_26 rfl ?_
        refine g_iconst d_X7_machine_27 ik_3 ?_
        refine g_icmp_ge d_X7_machine_28 (fun c28 => absurd c28 (by decide)) (fun c28 => ?_)
        refine g_iload_n d_X7_machine_31 rfl ?_
        refine g_if_ne d_X7_machine_32 (fun c32 => absurd c32 (by decide)) (fun c32 => ?_)
        refine g_aload_n d_X7_machine_35 rfl ?_
        refine h_getR d_X7_machine_36 fl_7_28 sp_M rfl ?_
        refine g_bipush d_X7_machine_39 bk_7 ?_
        refine g_iload_n d_X7_machine_41 rfl ?_
        refine g_iadd d_X7_machine_42 ?_
        refine mm_aldV (k := (7 + r)) (v := hv h 15 2 r) d_X7_machine_43 (j := 7) sp_m_d rfl (by decide) (nAdd rfl rfl) (by omega) (by decide) ((hs_j (by decide)).trans (hS.2.1.2.1 r hr).2.1.symm) ?_
        refine g_goto d_X7_machine_44 ?_
        refine h_iret d_X7_machine_74 rfl ?_
        exact ⟨rfl, _, _, rfl, hR.fr fr_thrown⟩
    · subst e1
      refine g_aload_n d_X6_machine_66 rfl ?_
      refine h_getR d_X6_machine_67 fl_6_26 sp_L rfl ?_
      refine h_getR d_X6_machine_70 fl_6_199 (sp_hall hall_15) rfl ?_
      refine g_iload_n d_X6_machine_73 rfl ?_
      refine hh_aldE (k := r) d_X6_machine_74 (sp_h3 hall_15) (by decide) rfl (by omega) (by decide) ?_
      refine h_iret d_X6_machine_75 rfl ?_
      refine ⟨_, rfl, ?_⟩
      rw [← mu_15]
      refine MtH.of [some (.ref 360), some (.int (nI r)), some (.int 1)] pl_X7 rfl rfl ?_
      refine g_aload_n d_X7_machine_0 rfl ?_
      refine g_iconst d_X7_machine_1 ik_0 ?_
      refine mm_putI d_X7_machine_2 fl_7_62 sp_M rfl ?_
      refine g_aload_n d_X7_machine_5 rfl ?_
      refine g_iload_n d_X7_machine_6 rfl ?_
      refine h_V1i d_X7_machine_7 cl_7_201 (m7_isMachine ((hs_j (by decide)).trans wM)) sp_M (by decide) rfl (Nat.le_of_ble_eq_true rfl) (by decide) ?_
      refine g_if_eq d_X7_machine_10 (fun c10 => ?_) (fun c10 => ?_)
      · exfalso
        simp only [b2i_eq0, b2i_ne0, Int32.lt_iff_toInt_lt, Int32.le_iff_toInt_le, t_0, t_1, t_2, t_3, t_4, t_5, t_6, t_7, t_8, t_9, t_10, t_11, t_12, t_20, t_24, t_40, t_50, t_60, t_99, t_110, t_255, t_999, t_999999, t_m1, er, gM, gN, eM, eN, eM1, eN1] at *
        omega
      · refine g_iload_n d_X7_machine_13 rfl ?_
        refine g_iconst d_X7_machine_14 ik_0 ?_
        refine g_bipush d_X7_machine_15 bk_6 ?_
        refine h_S3i d_X7_machine_17 cl_7_70 m7_in (Nat.le_of_ble_eq_true rfl) (by decide) ?_
        refine g_if_ne d_X7_machine_20 (fun c20 => ?_) (fun c20 => absurd c20 (by decide))
        refine g_iload_n d_X7_machine_26 rfl ?_
        refine g_iconst d_X7_machine_27 ik_3 ?_
        refine g_icmp_ge d_X7_machine_28 (fun c28 => absurd c28 (by decide)) (fun c28 => ?_)
        refine g_iload_n d_X7_machine_31 rfl ?_
        refine g_if_ne d_X7_machine_32 (fun c32 => ?_) (fun c32 => absurd c32 (by decide))
        refine g_iload_n d_X7_machine_47 rfl ?_
        refine g_iconst d_X7_machine_48 ik_1 ?_
        refine g_icmp_ne d_X7_machine_49 (fun c49 => absurd c49 (by decide)) (fun c49 => ?_)
        refine g_aload_n d_X7_machine_52 rfl ?_
        refine h_getR d_X7_machine_53 fl_7_28 sp_M rfl ?_
        refine g_bipush d_X7_machine_56 bk_12 ?_
        refine g_iload_n d_X7_machine_58 rfl ?_
        refine g_iadd d_X7_machine_59 ?_
        refine mm_aldV (k := (12 + r)) (v := hv h 15 3 r) d_X7_machine_60 (j := 7) sp_m_d rfl (by decide) (nAdd rfl rfl) (by omega) (by decide) ((hs_j (by decide)).trans (hS.2.1.2.1 r hr).2.2.1.symm) ?_
        refine g_goto d_X7_machine_61 ?_
        refine h_iret d_X7_machine_74 rfl ?_
        exact ⟨rfl, _, _, rfl, hR.fr fr_thrown⟩
    · subst e2
      refine g_aload_n d_X6_machine_76 rfl ?_
      refine h_getR d_X6_machine_77 fl_6_26 sp_L rfl ?_
      refine g_iload_n d_X6_machine_80 rfl ?_
      refine h_V1i d_X6_machine_81 cl_6_177 (m_isOpen hall_15) (sp_hall hall_15) (by decide) rfl (Nat.le_of_ble_eq_true rfl) (by decide) ?_
      refine g_if_eq d_X6_machine_84 (fun c84 => ?_) (fun c84 => ?_)
      · refine g_iconst d_X6_machine_91 ik_0 ?_
        refine h_iret d_X6_machine_92 rfl ?_
        refine ⟨_, rfl, ?_⟩
        rw [← mu_15]
        refine MtH.of [some (.ref 360), some (.int (nI r)), some (.int 2)] pl_X7 rfl rfl ?_
        refine g_aload_n d_X7_machine_0 rfl ?_
        refine g_iconst d_X7_machine_1 ik_0 ?_
        refine mm_putI d_X7_machine_2 fl_7_62 sp_M rfl ?_
        refine g_aload_n d_X7_machine_5 rfl ?_
        refine g_iload_n d_X7_machine_6 rfl ?_
        refine h_V1i d_X7_machine_7 cl_7_201 (m7_isMachine ((hs_j (by decide)).trans wM)) sp_M (by decide) rfl (Nat.le_of_ble_eq_true rfl) (by decide) ?_
        refine g_if_eq d_X7_machine_10 (fun c10 => ?_) (fun c10 => ?_)
        · exfalso
          simp only [b2i_eq0, b2i_ne0, Int32.lt_iff_toInt_lt, Int32.le_iff_toInt_le, t_0, t_1, t_2, t_3, t_4, t_5, t_6, t_7, t_8, t_9, t_10, t_11, t_12, t_20, t_24, t_40, t_50, t_60, t_99, t_110, t_255, t_999, t_999999, t_m1, er, gM, gN, eM, eN, eM1, eN1] at *
          omega
        · refine g_iload_n d_X7_machine_13 rfl ?_
          refine g_iconst d_X7_machine_14 ik_0 ?_
          refine g_bipush d_X7_machine_15 bk_6 ?_
          refine h_S3i d_X7_machine_17 cl_7_70 m7_in (Nat.le_of_ble_eq_true rfl) (by decide) ?_
          refine g_if_ne d_X7_machine_20 (fun c20 => ?_) (fun c20 => absurd c20 (by decide))
          refine g_iload_n d_X7_machine_26 rfl ?_
          refine g_iconst d_X7_machine_27 ik_3 ?_
          refine g_icmp_ge d_X7_machine_28 (fun c28 => absurd c28 (by decide)) (fun c28 => ?_)
          refine g_iload_n d_X7_machine_31 rfl ?_
          refine g_if_ne d_X7_machine_32 (fun c32 => ?_) (fun c32 => absurd c32 (by decide))
          refine g_iload_n d_X7_machine_47 rfl ?_
          refine g_iconst d_X7_machine_48 ik_1 ?_
          refine g_icmp_ne d_X7_machine_49 (fun c49 => ?_) (fun c49 => absurd c49 (by decide))
          refine g_aload_n d_X7_machine_64 rfl ?_
          refine h_getR d_X7_machine_65 fl_7_31 sp_M rfl ?_
          refine g_iconst d_X7_machine_68 ik_2 ?_
          refine mm_aldV (k := 2) (v := hv h 15 0 4) d_X7_machine_69 (j := 8) sp_m_s rfl (by decide) rfl (by omega) (by decide) ((hs_j (by decide)).trans hS.2.1.1.2.2.2.2.symm) ?_
          refine g_iload_n d_X7_machine_70 rfl ?_
          refine g_ishr d_X7_machine_71 ?_
          refine g_iconst d_X7_machine_72 ik_1 ?_
          refine g_iand d_X7_machine_73 ?_
          refine h_iret d_X7_machine_74 rfl ?_
          exact ⟨by first | rw [b2i_ne0.mp c84] | rw [(hI.bit hr).resolve_right (b2i_eq0.mp c84)], _, _, rfl, hR.fr fr_thrown⟩
      · refine g_iconst d_X6_machine_87 ik_1 ?_
        refine g_goto d_X6_machine_88 ?_
        refine h_iret d_X6_machine_92 rfl ?_
        refine ⟨_, rfl, ?_⟩
        rw [← mu_15]
        refine MtH.of [some (.ref 360), some (.int (nI r)), some (.int 2)] pl_X7 rfl rfl ?_
        refine g_aload_n d_X7_machine_0 rfl ?_
        refine g_iconst d_X7_machine_1 ik_0 ?_
        refine mm_putI d_X7_machine_2 fl_7_62 sp_M rfl ?_
        refine g_aload_n d_X7_machine_5 rfl ?_
        refine g_iload_n d_X7_machine_6 rfl ?_
        refine h_V1i d_X7_machine_7 cl_7_201 (m7_isMachine ((hs_j (by decide)).trans wM)) sp_M (by decide) rfl (Nat.le_of_ble_eq_true rfl) (by decide) ?_
        refine g_if_eq d_X7_machine_10 (fun c10 => ?_) (fun c10 => ?_)
        · exfalso
          simp only [b2i_eq0, b2i_ne0, Int32.lt_iff_toInt_lt, Int32.le_iff_toInt_le, t_0, t_1, t_2, t_3, t_4, t_5, t_6, t_7, t_8, t_9, t_10, t_11, t_12, t_20, t_24, t_40, t_50, t_60, t_99, t_110, t_255, t_999, t_999999, t_m1, er, gM, gN, eM, eN, eM1, eN1] at *
          omega
        · refine g_iload_n d_X7_machine_13 rfl ?_
          refine g_iconst d_X7_machine_14 ik_0 ?_
          refine g_bipush d_X7_machine_15 bk_6 ?_
          refine h_S3i d_X7_machine_17 cl_7_70 m7_in (Nat.le_of_ble_eq_true rfl) (by decide) ?_
          refine g_if_ne d_X7_machine_20 (fun c20 => ?_) (fun c20 => absurd c20 (by decide))
          refine g_iload_n d_X7_machine_26 rfl ?_
          refine g_iconst d_X7_machine_27 ik_3 ?_
          refine g_icmp_ge d_X7_machine_28 (fun c28 => absurd c28 (by decide)) (fun c28 => ?_)
          refine g_iload_n d_X7_machine_31 rfl ?_
          refine g_if_ne d_X7_machine_32 (fun c32 => ?_) (fun c32 => absurd c32 (by decide))
          refine g_iload_n d_X7_machine_47 rfl ?_
          refine g_iconst d_X7_machine_48 ik_1 ?_
          refine g_icmp_ne d_X7_machine_49 (fun c49 => ?_) (fun c49 => absurd c49 (by decide))
          refine g_aload_n d_X7_machine_64 rfl ?_
          refine h_getR d_X7_machine_65 fl_7_31 sp_M rfl ?_
          refine g_iconst d_X7_machine_68 ik_2 ?_
          refine mm_aldV (k := 2) (v := hv h 15 0 4) d_X7_machine_69 (j := 8) sp_m_s rfl (by decide) rfl (by omega) (by decide) ((hs_j (by decide)).trans hS.2.1.1.2.2.2.2.symm) ?_
          refine g_iload_n d_X7_machine_70 rfl ?_
          refine g_ishr d_X7_machine_71 ?_
          refine g_iconst d_X7_machine_72 ik_1 ?_
          refine g_iand d_X7_machine_73 ?_
          refine h_iret d_X7_machine_74 rfl ?_
          exact ⟨by first | rw [b2i_ne0.mp c84] | rw [(hI.bit hr).resolve_right (b2i_eq0.mp c84)], _, _, rfl, hR.fr fr_thrown⟩
    · subst e3
      refine g_aload_n d_X6_machine_93 rfl ?_
      refine h_getR d_X6_machine_94 fl_6_26 sp_L rfl ?_
      refine g_iload_n d_X6_machine_97 rfl ?_
      refine h_V1i d_X6_machine_98 cl_6_202 (m_loadIn hall_15 rfl (by omega)) (sp_hall hall_15) (by decide) rfl (Nat.le_of_ble_eq_true rfl) (by decide) ?_
      refine h_iret d_X6_machine_101 rfl ?_
      refine ⟨_, rfl, ?_⟩
      rw [← mu_15]
      refine MtH.of [some (.ref 360), some (.int (nI r)), some (.int 3)] pl_X7 rfl rfl ?_
      refine g_aload_n d_X7_machine_0 rfl ?_
      refine g_iconst d_X7_machine_1 ik_0 ?_
      refine mm_putI d_X7_machine_2 fl_7_62 sp_M rfl ?_
      refine g_aload_n d_X7_machine_5 rfl ?_
      refine g_iload_n d_X7_machine_6 rfl ?_
      refine h_V1i d_X7_machine_7 cl_7_201 (m7_isMachine ((hs_j (by decide)).trans wM)) sp_M (by decide) rfl (Nat.le_of_ble_eq_true rfl) (by decide) ?_
      refine g_if_eq d_X7_machine_10 (fun c10 => ?_) (fun c10 => ?_)
      · exfalso
        simp only [b2i_eq0, b2i_ne0, Int32.lt_iff_toInt_lt, Int32.le_iff_toInt_le, t_0, t_1, t_2, t_3, t_4, t_5, t_6, t_7, t_8, t_9, t_10, t_11, t_12, t_20, t_24, t_40, t_50, t_60, t_99, t_110, t_255, t_999, t_999999, t_m1, er, gM, gN, eM, eN, eM1, eN1] at *
        omega
      · refine g_iload_n d_X7_machine_13 rfl ?_
        refine g_iconst d_X7_machine_14 ik_0 ?_
        refine g_bipush d_X7_machine_15 bk_6 ?_
        refine h_S3i d_X7_machine_17 cl_7_70 m7_in (Nat.le_of_ble_eq_true rfl) (by decide) ?_
        refine g_if_ne d_X7_machine_20 (fun c20 => ?_) (fun c20 => absurd c20 (by decide))
        refine g_iload_n d_X7_machine_26 rfl ?_
        refine g_iconst d_X7_machine_27 ik_3 ?_
        refine g_icmp_ge d_X7_machine_28 (fun c28 => ?_) (fun c28 => absurd c28 (by decide))
        refine g_iload_n d_X7_machine_75 rfl ?_
        refine g_bipush d_X7_machine_76 bk_6 ?_
        refine g_icmp_ge d_X7_machine_78 (fun c78 => absurd c78 (by decide)) (fun c78 => ?_)
        refine g_iload_n d_X7_machine_81 rfl ?_
        refine g_iconst d_X7_machine_82 ik_3 ?_
        refine g_icmp_ne d_X7_machine_83 (fun c83 => absurd c83 (by decide)) (fun c83 => ?_)
        refine g_aload_n d_X7_machine_86 rfl ?_
        refine h_getR d_X7_machine_87 fl_7_31 sp_M rfl ?_
        refine g_iconst d_X7_machine_90 ik_3 ?_
        refine g_iload_n d_X7_machine_91 rfl ?_
        refine g_iadd d_X7_machine_92 ?_
        refine mm_aldV (k := (3 + r)) (v := hv h 15 4 r) d_X7_machine_93 (j := 8) sp_m_s rfl (by decide) (nAdd rfl rfl) (by omega) (by decide) ((hs_j (by decide)).trans (hS.2.1.2.1 r hr).2.2.2.1.symm) ?_
        refine g_if_ge d_X7_machine_94 (fun c94 => ?_) (fun c94 => ?_)
        · refine g_aload_n d_X7_machine_102 rfl ?_
          refine h_getR d_X7_machine_103 fl_7_31 sp_M rfl ?_
          refine g_iconst d_X7_machine_106 ik_3 ?_
          refine g_iload_n d_X7_machine_107 rfl ?_
          refine g_iadd d_X7_machine_108 ?_
          refine mm_aldV (k := (3 + r)) (v := hv h 15 4 r) d_X7_machine_109 (j := 8) sp_m_s rfl (by decide) (nAdd rfl rfl) (by omega) (by decide) ((hs_j (by decide)).trans (hS.2.1.2.1 r hr).2.2.2.1.symm) ?_
          refine g_goto d_X7_machine_110 ?_
          refine h_iret d_X7_machine_154 rfl ?_
          exact ⟨by have hin := bz_m1 (hI.in4 hr) hN6; first | rw [if_neg (fun z => absurd (hin.mpr z) (Int32.not_lt.mpr c94))] | rw [if_pos (hin.mp (Int32.not_le.mp c94))], _, _, rfl, hR.fr fr_thrown⟩
        · refine g_ldc d_X7_machine_97 kc_X7_207 ?_
          refine g_goto d_X7_machine_99 ?_
          refine h_iret d_X7_machine_154 rfl ?_
          exact ⟨by have hin := bz_m1 (hI.in4 hr) hN6; first | rw [if_neg (fun z => absurd (hin.mpr z) (Int32.not_lt.mpr c94))] | rw [if_pos (hin.mp (Int32.not_le.mp c94))], _, _, rfl, hR.fr fr_thrown⟩
    · subst e4
      refine g_aload_n d_X6_machine_102 rfl ?_
      refine h_getR d_X6_machine_103 fl_6_26 sp_L rfl ?_
      refine h_getR d_X6_machine_106 fl_6_205 (sp_hall hall_15) rfl ?_
      refine g_iload_n d_X6_machine_109 rfl ?_
      refine hh_aldE (k := r) d_X6_machine_110 (sp_h5 hall_15) (by decide) rfl (by omega) (by decide) ?_
      refine h_iret d_X6_machine_111 rfl ?_
      refine ⟨_, rfl, ?_⟩
      rw [← mu_15]
      refine MtH.of [some (.ref 360), some (.int (nI r)), some (.int 4)] pl_X7 rfl rfl ?_
      refine g_aload_n d_X7_machine_0 rfl ?_
      refine g_iconst d_X7_machine_1 ik_0 ?_
      refine mm_putI d_X7_machine_2 fl_7_62 sp_M rfl ?_
      refine g_aload_n d_X7_machine_5 rfl ?_
      refine g_iload_n d_X7_machine_6 rfl ?_
      refine h_V1i d_X7_machine_7 cl_7_201 (m7_isMachine ((hs_j (by decide)).trans wM)) sp_M (by decide) rfl (Nat.le_of_ble_eq_true rfl) (by decide) ?_
      refine g_if_eq d_X7_machine_10 (fun c10 => ?_) (fun c10 => ?_)
      · exfalso
        simp only [b2i_eq0, b2i_ne0, Int32.lt_iff_toInt_lt, Int32.le_iff_toInt_le, t_0, t_1, t_2, t_3, t_4, t_5, t_6, t_7, t_8, t_9, t_10, t_11, t_12, t_20, t_24, t_40, t_50, t_60, t_99, t_110, t_255, t_999, t_999999, t_m1, er, gM, gN, eM, eN, eM1, eN1] at *
        omega
      · refine g_iload_n d_X7_machine_13 rfl ?_
        refine g_iconst d_X7_machine_14 ik_0 ?_
        refine g_bipush d_X7_machine_15 bk_6 ?_
        refine h_S3i d_X7_machine_17 cl_7_70 m7_in (Nat.le_of_ble_eq_true rfl) (by decide) ?_
        refine g_if_ne d_X7_machine_20 (fun c20 => ?_) (fun c20 => absurd c20 (by decide))
        refine g_iload_n d_X7_machine_26 rfl ?_
        refine g_iconst d_X7_machine_27 ik_3 ?_
        refine g_icmp_ge d_X7_machine_28 (fun c28 => ?_) (fun c28 => absurd c28 (by decide))
        refine g_iload_n d_X7_machine_75 rfl ?_
        refine g_bipush d_X7_machine_76 bk_6 ?_
        refine g_icmp_ge d_X7_machine_78 (fun c78 => absurd c78 (by decide)) (fun c78 => ?_)
        refine g_iload_n d_X7_machine_81 rfl ?_
        refine g_iconst d_X7_machine_82 ik_3 ?_
        refine g_icmp_ne d_X7_machine_83 (fun c83 => ?_) (fun c83 => absurd c83 (by decide))
        refine g_iload_n d_X7_machine_113 rfl ?_
        refine g_iconst d_X7_machine_114 ik_4 ?_
        refine g_icmp_ne d_X7_machine_115 (fun c115 => absurd c115 (by decide)) (fun c115 => ?_)
        refine g_aload_n d_X7_machine_118 rfl ?_
        refine h_getR d_X7_machine_119 fl_7_31 sp_M rfl ?_
        refine g_iconst d_X7_machine_122 ik_3 ?_
        refine g_iload_n d_X7_machine_123 rfl ?_
        refine g_iadd d_X7_machine_124 ?_
        refine mm_aldV (k := (3 + r)) (v := hv h 15 4 r) d_X7_machine_125 (j := 8) sp_m_s rfl (by decide) (nAdd rfl rfl) (by omega) (by decide) ((hs_j (by decide)).trans (hS.2.1.2.1 r hr).2.2.2.1.symm) ?_
        refine g_if_ge d_X7_machine_126 (fun c126 => ?_) (fun c126 => ?_)
        · refine g_aload_n d_X7_machine_133 rfl ?_
          refine h_getR d_X7_machine_134 fl_7_31 sp_M rfl ?_
          refine g_bipush d_X7_machine_137 bk_8 ?_
          refine g_iload_n d_X7_machine_139 rfl ?_
          refine g_iadd d_X7_machine_140 ?_
          refine mm_aldV (k := (8 + r)) (v := hv h 15 5 r) d_X7_machine_141 (j := 8) sp_m_s rfl (by decide) (nAdd rfl rfl) (by omega) (by decide) ((hs_j (by decide)).trans (hS.2.1.2.1 r hr).2.2.2.2.1.symm) ?_
          refine g_goto d_X7_machine_142 ?_
          refine h_iret d_X7_machine_154 rfl ?_
          exact ⟨by have hin := bz_m1 (hI.in4 hr) hN6; first | rfl | rw [hI.lf0 hr (hin.mp (Int32.not_le.mp c126))], _, _, rfl, hR.fr fr_thrown⟩
        · refine g_iconst d_X7_machine_129 ik_0 ?_
          refine g_goto d_X7_machine_130 ?_
          refine h_iret d_X7_machine_154 rfl ?_
          exact ⟨by have hin := bz_m1 (hI.in4 hr) hN6; first | rfl | rw [hI.lf0 hr (hin.mp (Int32.not_le.mp c126))], _, _, rfl, hR.fr fr_thrown⟩
    · subst e5
      refine g_aload_n d_X6_machine_112 rfl ?_
      refine h_getR d_X6_machine_113 fl_6_26 sp_L rfl ?_
      refine h_getR d_X6_machine_116 fl_6_208 (sp_hall hall_15) rfl ?_
      refine g_iload_n d_X6_machine_119 rfl ?_
      refine hh_aldE (k := r) d_X6_machine_120 (sp_h6 hall_15) (by decide) rfl (by omega) (by decide) ?_
      refine h_iret d_X6_machine_121 rfl ?_
      refine ⟨_, rfl, ?_⟩
      rw [← mu_15]
      refine MtH.of [some (.ref 360), some (.int (nI r)), some (.int 5)] pl_X7 rfl rfl ?_
      refine g_aload_n d_X7_machine_0 rfl ?_
      refine g_iconst d_X7_machine_1 ik_0 ?_
      refine mm_putI d_X7_machine_2 fl_7_62 sp_M rfl ?_
      refine g_aload_n d_X7_machine_5 rfl ?_
      refine g_iload_n d_X7_machine_6 rfl ?_
      refine h_V1i d_X7_machine_7 cl_7_201 (m7_isMachine ((hs_j (by decide)).trans wM)) sp_M (by decide) rfl (Nat.le_of_ble_eq_true rfl) (by decide) ?_
      refine g_if_eq d_X7_machine_10 (fun c10 => ?_) (fun c10 => ?_)
      · exfalso
        simp only [b2i_eq0, b2i_ne0, Int32.lt_iff_toInt_lt, Int32.le_iff_toInt_le, t_0, t_1, t_2, t_3, t_4, t_5, t_6, t_7, t_8, t_9, t_10, t_11, t_12, t_20, t_24, t_40, t_50, t_60, t_99, t_110, t_255, t_999, t_999999, t_m1, er, gM, gN, eM, eN, eM1, eN1] at *
        omega
      · refine g_iload_n d_X7_machine_13 rfl ?_
        refine g_iconst d_X7_machine_14 ik_0 ?_
        refine g_bipush d_X7_machine_15 bk_6 ?_
        refine h_S3i d_X7_machine_17 cl_7_70 m7_in (Nat.le_of_ble_eq_true rfl) (by decide) ?_
        refine g_if_ne d_X7_machine_20 (fun c20 => ?_) (fun c20 => absurd c20 (by decide))
        refine g_iload_n d_X7_machine_26 rfl ?_
        refine g_iconst d_X7_machine_27 ik_3 ?_
        refine g_icmp_ge d_X7_machine_28 (fun c28 => ?_) (fun c28 => absurd c28 (by decide))
        refine g_iload_n d_X7_machine_75 rfl ?_
        refine g_bipush d_X7_machine_76 bk_6 ?_
        refine g_icmp_ge d_X7_machine_78 (fun c78 => absurd c78 (by decide)) (fun c78 => ?_)
        refine g_iload_n d_X7_machine_81 rfl ?_
        refine g_iconst d_X7_machine_82 ik_3 ?_
        refine g_icmp_ne d_X7_machine_83 (fun c83 => ?_) (fun c83 => absurd c83 (by decide))
        refine g_iload_n d_X7_machine_113 rfl ?_
        refine g_iconst d_X7_machine_114 ik_4 ?_
        refine g_icmp_ne d_X7_machine_115 (fun c115 => ?_) (fun c115 => absurd c115 (by decide))
        refine g_aload_n d_X7_machine_145 rfl ?_
        refine h_getR d_X7_machine_146 fl_7_31 sp_M rfl ?_
        refine g_bipush d_X7_machine_149 bk_13 ?_
        refine g_iload_n d_X7_machine_151 rfl ?_
        refine g_iadd d_X7_machine_152 ?_
        refine mm_aldV (k := (13 + r)) (v := hv h 15 6 r) d_X7_machine_153 (j := 8) sp_m_s rfl (by decide) (nAdd rfl rfl) (by omega) (by decide) ((hs_j (by decide)).trans (hS.2.1.2.1 r hr).2.2.2.2.2.symm) ?_
        refine h_iret d_X7_machine_154 rfl ?_
        exact ⟨rfl, _, _, rfl, hR.fr fr_thrown⟩
    · subst e6
      refine g_aload_n d_X6_machine_122 rfl ?_
      refine h_getR d_X6_machine_123 fl_6_26 sp_L rfl ?_
      refine g_iload_n d_X6_machine_126 rfl ?_
      refine h_V1i d_X6_machine_127 cl_6_211 (m_washes hall_15 rfl (by omega)) (sp_hall hall_15) (by decide) rfl (Nat.le_of_ble_eq_true rfl) (by decide) ?_
      refine g_if_eq d_X6_machine_130 (fun c130 => ?_) (fun c130 => ?_)
      · refine g_iconst d_X6_machine_137 ik_0 ?_
        refine h_iret d_X6_machine_138 rfl ?_
        refine ⟨_, rfl, ?_⟩
        rw [← mu_15]
        refine MtH.of [some (.ref 360), some (.int (nI r)), some (.int 6)] pl_X7 rfl rfl ?_
        refine g_aload_n d_X7_machine_0 rfl ?_
        refine g_iconst d_X7_machine_1 ik_0 ?_
        refine mm_putI d_X7_machine_2 fl_7_62 sp_M rfl ?_
        refine g_aload_n d_X7_machine_5 rfl ?_
        refine g_iload_n d_X7_machine_6 rfl ?_
        refine h_V1i d_X7_machine_7 cl_7_201 (m7_isMachine ((hs_j (by decide)).trans wM)) sp_M (by decide) rfl (Nat.le_of_ble_eq_true rfl) (by decide) ?_
        refine g_if_eq d_X7_machine_10 (fun c10 => ?_) (fun c10 => ?_)
        · exfalso
          simp only [b2i_eq0, b2i_ne0, Int32.lt_iff_toInt_lt, Int32.le_iff_toInt_le, t_0, t_1, t_2, t_3, t_4, t_5, t_6, t_7, t_8, t_9, t_10, t_11, t_12, t_20, t_24, t_40, t_50, t_60, t_99, t_110, t_255, t_999, t_999999, t_m1, er, gM, gN, eM, eN, eM1, eN1] at *
          omega
        · refine g_iload_n d_X7_machine_13 rfl ?_
          refine g_iconst d_X7_machine_14 ik_0 ?_
          refine g_bipush d_X7_machine_15 bk_6 ?_
          refine h_S3i d_X7_machine_17 cl_7_70 m7_in (Nat.le_of_ble_eq_true rfl) (by decide) ?_
          refine g_if_ne d_X7_machine_20 (fun c20 => ?_) (fun c20 => absurd c20 (by decide))
          refine g_iload_n d_X7_machine_26 rfl ?_
          refine g_iconst d_X7_machine_27 ik_3 ?_
          refine g_icmp_ge d_X7_machine_28 (fun c28 => ?_) (fun c28 => absurd c28 (by decide))
          refine g_iload_n d_X7_machine_75 rfl ?_
          refine g_bipush d_X7_machine_76 bk_6 ?_
          refine g_icmp_ge d_X7_machine_78 (fun c78 => ?_) (fun c78 => absurd c78 (by decide))
          refine g_aload_n d_X7_machine_155 rfl ?_
          refine h_getR d_X7_machine_156 fl_7_28 sp_M rfl ?_
          refine g_iconst d_X7_machine_159 ik_2 ?_
          refine g_iload_n d_X7_machine_160 rfl ?_
          refine g_iadd d_X7_machine_161 ?_
          refine mm_aldV (k := (2 + r)) (v := hv h 15 1 r) d_X7_machine_162 (j := 7) sp_m_d rfl (by decide) (nAdd rfl rfl) (by omega) (by decide) ((hs_j (by decide)).trans (hS.2.1.2.1 r hr).1.symm) ?_
          refine h_S1i d_X7_machine_163 cl_7_152 m7_washes (Nat.le_of_ble_eq_true rfl) (by decide) ?_
          refine g_if_eq d_X7_machine_166 (fun c166 => ?_) (fun c166 => ?_)
          · refine g_iconst d_X7_machine_173 ik_0 ?_
            refine h_iret d_X7_machine_174 rfl ?_
            exact ⟨by have hw := hI.wsh hr; first | rfl | exact absurd (hw.mp (b2i_ne0.mp c166)) (b2i_eq0.mp c130) | exact absurd (hw.mpr (b2i_ne0.mp c130)) (b2i_eq0.mp c166), _, _, rfl, hR.fr fr_thrown⟩
          · refine g_iconst d_X7_machine_169 ik_1 ?_
            refine g_goto d_X7_machine_170 ?_
            refine h_iret d_X7_machine_174 rfl ?_
            exact ⟨by have hw := hI.wsh hr; first | rfl | exact absurd (hw.mp (b2i_ne0.mp c166)) (b2i_eq0.mp c130) | exact absurd (hw.mpr (b2i_ne0.mp c130)) (b2i_eq0.mp c166), _, _, rfl, hR.fr fr_thrown⟩
      · refine g_iconst d_X6_machine_133 ik_1 ?_
        refine g_goto d_X6_machine_134 ?_
        refine h_iret d_X6_machine_138 rfl ?_
        refine ⟨_, rfl, ?_⟩
        rw [← mu_15]
        refine MtH.of [some (.ref 360), some (.int (nI r)), some (.int 6)] pl_X7 rfl rfl ?_
        refine g_aload_n d_X7_machine_0 rfl ?_
        refine g_iconst d_X7_machine_1 ik_0 ?_
        refine mm_putI d_X7_machine_2 fl_7_62 sp_M rfl ?_
        refine g_aload_n d_X7_machine_5 rfl ?_
        refine g_iload_n d_X7_machine_6 rfl ?_
        refine h_V1i d_X7_machine_7 cl_7_201 (m7_isMachine ((hs_j (by decide)).trans wM)) sp_M (by decide) rfl (Nat.le_of_ble_eq_true rfl) (by decide) ?_
        refine g_if_eq d_X7_machine_10 (fun c10 => ?_) (fun c10 => ?_)
        · exfalso
          simp only [b2i_eq0, b2i_ne0, Int32.lt_iff_toInt_lt, Int32.le_iff_toInt_le, t_0, t_1, t_2, t_3, t_4, t_5, t_6, t_7, t_8, t_9, t_10, t_11, t_12, t_20, t_24, t_40, t_50, t_60, t_99, t_110, t_255, t_999, t_999999, t_m1, er, gM, gN, eM, eN, eM1, eN1] at *
          omega
        · refine g_iload_n d_X7_machine_13 rfl ?_
          refine g_iconst d_X7_machine_14 ik_0 ?_
          refine g_bipush d_X7_machine_15 bk_6 ?_
          refine h_S3i d_X7_machine_17 cl_7_70 m7_in (Nat.le_of_ble_eq_true rfl) (by decide) ?_
          refine g_if_ne d_X7_machine_20 (fun c20 => ?_) (fun c20 => absurd c20 (by decide))
          refine g_iload_n d_X7_machine_26 rfl ?_
          refine g_iconst d_X7_machine_27 ik_3 ?_
          refine g_icmp_ge d_X7_machine_28 (fun c28 => ?_) (fun c28 => absurd c28 (by decide))
          refine g_iload_n d_X7_machine_75 rfl ?_
          refine g_bipush d_X7_machine_76 bk_6 ?_
          refine g_icmp_ge d_X7_machine_78 (fun c78 => ?_) (fun c78 => absurd c78 (by decide))
          refine g_aload_n d_X7_machine_155 rfl ?_
          refine h_getR d_X7_machine_156 fl_7_28 sp_M rfl ?_
          refine g_iconst d_X7_machine_159 ik_2 ?_
          refine g_iload_n d_X7_machine_160 rfl ?_
          refine g_iadd d_X7_machine_161 ?_
          refine mm_aldV (k := (2 + r)) (v := hv h 15 1 r) d_X7_machine_162 (j := 7) sp_m_d rfl (by decide) (nAdd rfl rfl) (by omega) (by decide) ((hs_j (by decide)).trans (hS.2.1.2.1 r hr).1.symm) ?_
          refine h_S1i d_X7_machine_163 cl_7_152 m7_washes (Nat.le_of_ble_eq_true rfl) (by decide) ?_
          refine g_if_eq d_X7_machine_166 (fun c166 => ?_) (fun c166 => ?_)
          · refine g_iconst d_X7_machine_173 ik_0 ?_
            refine h_iret d_X7_machine_174 rfl ?_
            exact ⟨by have hw := hI.wsh hr; first | rfl | exact absurd (hw.mp (b2i_ne0.mp c166)) (b2i_eq0.mp c130) | exact absurd (hw.mpr (b2i_ne0.mp c130)) (b2i_eq0.mp c166), _, _, rfl, hR.fr fr_thrown⟩
          · refine g_iconst d_X7_machine_169 ik_1 ?_
            refine g_goto d_X7_machine_170 ?_
            refine h_iret d_X7_machine_174 rfl ?_
            exact ⟨by have hw := hI.wsh hr; first | rfl | exact absurd (hw.mp (b2i_ne0.mp c166)) (b2i_eq0.mp c130) | exact absurd (hw.mpr (b2i_ne0.mp c130)) (b2i_eq0.mp c166), _, _, rfl, hR.fr fr_thrown⟩
    · refine g_ldc d_X6_machine_139 kc_X6_66 ?_
      refine h_iret d_X6_machine_141 rfl ?_
      refine ⟨_, rfl, ?_⟩
      rw [← mu_15]
      refine MtH.of [some (.ref 360), some (.int (nI r)), some (.int y)] pl_X7 rfl rfl ?_
      refine g_aload_n d_X7_machine_0 rfl ?_
      refine g_iconst d_X7_machine_1 ik_0 ?_
      refine mm_putI d_X7_machine_2 fl_7_62 sp_M rfl ?_
      refine g_aload_n d_X7_machine_5 rfl ?_
      refine g_iload_n d_X7_machine_6 rfl ?_
      refine h_V1i d_X7_machine_7 cl_7_201 (m7_isMachine ((hs_j (by decide)).trans wM)) sp_M (by decide) rfl (Nat.le_of_ble_eq_true rfl) (by decide) ?_
      refine g_if_eq d_X7_machine_10 (fun c10 => ?_) (fun c10 => ?_)
      · refine g_ldc d_X7_machine_23 kc_X7_78 ?_
        refine h_iret d_X7_machine_25 rfl ?_
        exact ⟨rfl, _, _, rfl, hR.fr fr_thrown⟩
      · refine g_iload_n d_X7_machine_13 rfl ?_
        refine g_iconst d_X7_machine_14 ik_0 ?_
        refine g_bipush d_X7_machine_15 bk_6 ?_
        refine h_S3i d_X7_machine_17 cl_7_70 m7_in (Nat.le_of_ble_eq_true rfl) (by decide) ?_
        refine g_if_ne d_X7_machine_20 (fun c20 => ?_) (fun c20 => ?_)
        · exfalso
          have z0 : ¬ y.toInt = 0 := fun z => q0 (Int32.toInt_inj.mp (z.trans t_0.symm))
          have z1 : ¬ y.toInt = 1 := fun z => q1 (Int32.toInt_inj.mp (z.trans t_1.symm))
          have z2 : ¬ y.toInt = 2 := fun z => q2 (Int32.toInt_inj.mp (z.trans t_2.symm))
          have z3 : ¬ y.toInt = 3 := fun z => q3 (Int32.toInt_inj.mp (z.trans t_3.symm))
          have z4 : ¬ y.toInt = 4 := fun z => q4 (Int32.toInt_inj.mp (z.trans t_4.symm))
          have z5 : ¬ y.toInt = 5 := fun z => q5 (Int32.toInt_inj.mp (z.trans t_5.symm))
          have z6 : ¬ y.toInt = 6 := fun z => q6 (Int32.toInt_inj.mp (z.trans t_6.symm))
          clear q0 q1 q2 q3 q4 q5 q6
          simp only [b2i_eq0, b2i_ne0, Int32.lt_iff_toInt_lt, Int32.le_iff_toInt_le, t_0, t_1, t_2, t_3, t_4, t_5, t_6, t_7, t_8, t_9, t_10, t_11, t_12, t_20, t_24, t_40, t_50, t_60, t_99, t_110, t_255, t_999, t_999999, t_m1, er, gM, gN, eM, eN, eM1, eN1] at *
          omega
        · refine g_ldc d_X7_machine_23 kc_X7_78 ?_
          refine h_iret d_X7_machine_25 rfl ?_
          exact ⟨rfl, _, _, rfl, hR.fr fr_thrown⟩
  · refine g_ldc d_X6_machine_11 kc_X6_66 ?_
    refine h_iret d_X6_machine_13 rfl ?_
    refine ⟨_, rfl, ?_⟩
    rw [← mu_15]
    refine MtH.of [some (.ref 360), some (.int x), some (.int y)] pl_X7 rfl rfl ?_
    refine g_aload_n d_X7_machine_0 rfl ?_
    refine g_iconst d_X7_machine_1 ik_0 ?_
    refine mm_putI d_X7_machine_2 fl_7_62 sp_M rfl ?_
    refine g_aload_n d_X7_machine_5 rfl ?_
    refine g_iload_n d_X7_machine_6 rfl ?_
    refine h_V1i d_X7_machine_7 cl_7_201 (m7_isMachine ((hs_j (by decide)).trans wM)) sp_M (by decide) rfl (Nat.le_of_ble_eq_true rfl) (by decide) ?_
    refine g_if_eq d_X7_machine_10 (fun c10 => ?_) (fun c10 => ?_)
    · refine g_ldc d_X7_machine_23 kc_X7_78 ?_
      refine h_iret d_X7_machine_25 rfl ?_
      exact ⟨rfl, _, _, rfl, hR.fr fr_thrown⟩
    · refine g_iload_n d_X7_machine_13 rfl ?_
      refine g_iconst d_X7_machine_14 ik_0 ?_
      refine g_bipush d_X7_machine_15 bk_6 ?_
      refine h_S3i d_X7_machine_17 cl_7_70 m7_in (Nat.le_of_ble_eq_true rfl) (by decide) ?_
      refine g_if_ne d_X7_machine_20 (fun c20 => ?_) (fun c20 => ?_)
      · exfalso
        simp only [b2i_eq0, b2i_ne0, Int32.lt_iff_toInt_lt, Int32.le_iff_toInt_le, t_0, t_1, t_2, t_3, t_4, t_5, t_6, t_7, t_8, t_9, t_10, t_11, t_12, t_20, t_24, t_40, t_50, t_60, t_99, t_110, t_255, t_999, t_999999, t_m1, gM, gN, eM, eN, eM1, eN1] at *
        omega
      · refine g_ldc d_X7_machine_23 kc_X7_78 ?_
        refine h_iret d_X7_machine_25 rfl ?_
        exact ⟨rfl, _, _, rfl, hR.fr fr_thrown⟩
