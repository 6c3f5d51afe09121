/-! OPS: load, lasts, stand, kind -/
theorem Rp.th {M N : Nat} {g w : Hv} {v : Int32} (h : Rp M N g (w 7) (w 8)) (hM5 : M ≤ 5) (hN6 : N ≤ 6) : Rep0 M N g (hset w 0 0 v) 7 8 := Rep0.mv (w := w) h hM5 hN6 (fun y _ => hs_j (by decide)) (fun y _ => hs_j (by decide))
theorem lastsS_11 {g : Hv} {k l : Nat} {f : Nat → Int32} : lastsS (fun x y => if x = 11 then f y else g x y) k l = lastsS g k l := rfl
theorem m7_lastsOf0 {h w g : Hv} {M N ja jb A a : Nat} (hA : AR A ja 17) (ha : AR a jb 42) (hR : Rep0 M N g w ja jb) (hI : HL M N g) {k l : Nat} (hk : k < M) (hl : l < N) {m x : Int32} (em : m = nI k) (ex : x = nI l) : MtF M_X7_lastsOf 1 [.ref A, .ref a, .int m, .int x] (mu h w) (some (.int (lastsS g k l))) (mu h w) :=
  m7_lastsOf (g := fun x y => if x = 11 then w 11 y else g x y) hA ha ⟨hR.1, hR.2.1, hR.2.2, fun j _ => rfl⟩ hI hk hl em ex
theorem op_load {h w : Hv} (hR : RelP h w) {x y : Int32} : OPI M_X6_load M_X7_load 2 2 [.int x, .int y] (mu h w) := by
  obtain ⟨M, N, hM5, hN6, gM, wM, gN, wN, hZ⟩ := hR.mn
  have eM : (nI M).toInt = M := nI_toInt (by omega)
  have eN : (nI N).toInt = N := nI_toInt (by omega)
  have eM1 := nI_predI (t := M) (by omega)
  have eN1 := nI_predI (t := N) (by omega)
  rw [mu_15]
  refine MtH.of [some (.ref 0), some (.int x), some (.int y)] pl_X6 rfl rfl ?_
  refine g_aload_n d_X6_load_0 rfl ?_
  refine h_getR d_X6_load_1 fl_6_26 sp_L rfl ?_
  refine g_iload_n d_X6_load_4 rfl ?_
  refine h_V1i d_X6_load_5 cl_6_183 (m_hasLoad hall_15) (sp_hall hall_15) (by decide) rfl (Nat.le_of_ble_eq_true rfl) (by decide) ?_
  refine g_if_ne d_X6_load_8 (fun c8 => ?_) (fun c8 => ?_)
  · obtain ⟨l, hl, rfl⟩ := rngI (x := x) (B := N) (by simp only [b2i_eq0, b2i_ne0, Int32.lt_iff_toInt_lt, Int32.le_iff_toInt_le, t_0, t_1, t_2, t_3, t_4, t_5, t_6, t_7, t_8, t_9, t_10, t_11, t_12, t_20, t_24, t_40, t_50, t_60, t_99, t_110, t_255, t_999, t_999999, t_m1, gM, gN, eM, eN, eM1, eN1] at *; omega) (by simp only [b2i_eq0, b2i_ne0, Int32.lt_iff_toInt_lt, Int32.le_iff_toInt_le, t_0, t_1, t_2, t_3, t_4, t_5, t_6, t_7, t_8, t_9, t_10, t_11, t_12, t_20, t_24, t_40, t_50, t_60, t_99, t_110, t_255, t_999, t_999999, t_m1, gM, gN, eM, eN, eM1, eN1] at *; omega)
    have el : (nI l).toInt = l := nI_toInt (by omega)
    obtain ⟨i0, c0, hi0, hi1, hS, hA, hO⟩ := (hZ.resolve_left (fun z => by have := z.1; have := z.2.1; omega)).2.2
    have hI := hS.1
    refine g_iload_n d_X6_load_14 rfl ?_
    refine sw_X6_load_15 (fun e0 => ?_) (fun e1 => ?_) (fun e2 => ?_) (fun e3 => ?_) (fun e4 => ?_) (fun q0 q1 q2 q3 q4 => ?_)
    · subst e0
      refine g_aload_n d_X6_load_48 rfl ?_
      refine h_getR d_X6_load_49 fl_6_26 sp_L rfl ?_
      refine h_getR d_X6_load_52 fl_6_214 (sp_hall hall_15) rfl ?_
      refine g_iload_n d_X6_load_55 rfl ?_
      refine hh_aldE (k := l) d_X6_load_56 (sp_h7 hall_15) (by decide) rfl (by omega) (by decide) ?_
      refine h_iret d_X6_load_57 rfl ?_
      refine ⟨_, rfl, ?_⟩
      rw [← mu_15]
      refine MtH.of [some (.ref 360), some (.int (nI l)), some (.int 0)] pl_X7 rfl rfl ?_
      refine g_aload_n d_X7_load_0 rfl ?_
      refine g_iconst d_X7_load_1 ik_0 ?_
      refine mm_putI d_X7_load_2 fl_7_62 sp_M rfl ?_
      refine g_aload_n d_X7_load_5 rfl ?_
      refine g_iload_n d_X7_load_6 rfl ?_
      refine h_V1i d_X7_load_7 cl_7_204 (m7_isLoad ((hs_j (by decide)).trans wN)) sp_M (by decide) rfl (Nat.le_of_ble_eq_true rfl) (by decide) ?_
      refine g_if_eq d_X7_load_10 (fun c10 => ?_) (fun c10 => ?_)
      · exfalso
        simp only [b2i_eq0, b2i_ne0, Int32.lt_iff_toInt_lt, Int32.le_iff_toInt_le, t_0, t_1, t_2, t_3, t_4, t_5, t_6, t_7, t_8, t_9, t_10, t_11, t_12, t_20, t_24, t_40, t_50, t_60, t_99, t_110, t_255, t_999, t_999999, t_m1, el, gM, gN, eM, eN, eM1, eN1] at *
        omega
      · refine g_iload_n d_X7_load_13 rfl ?_
        refine g_iconst d_X7_load_14 ik_0 ?_
        refine g_iconst d_X7_load_15 ik_4 ?_
        refine h_S3i d_X7_load_16 cl_7_70 m7_in (Nat.le_of_ble_eq_true rfl) (by decide) ?_
        refine g_if_ne d_X7_load_19 (fun c19 => ?_) (fun c19 => absurd c19 (by decide))
        refine g_iload_n d_X7_load_25 rfl ?_
        refine g_iconst d_X7_load_26 ik_3 ?_
        refine g_icmp_ge d_X7_load_27 (fun c27 => absurd c27 (by decide)) (fun c27 => ?_)
        refine g_iload_n d_X7_load_30 rfl ?_
        refine g_if_ne d_X7_load_31 (fun c31 => absurd c31 (by decide)) (fun c31 => ?_)
        refine g_aload_n d_X7_load_34 rfl ?_
        refine h_getR d_X7_load_35 fl_7_31 sp_M rfl ?_
        refine g_bipush d_X7_load_38 bk_18 ?_
        refine g_iload_n d_X7_load_40 rfl ?_
        refine g_iadd d_X7_load_41 ?_
        refine mm_aldV (k := (18 + l)) (v := hv h 15 7 l) d_X7_load_42 (j := 8) sp_m_s rfl (by decide) (nAdd rfl rfl) (by omega) (by decide) ((hs_j (by decide)).trans (hS.2.1.2.2 l hl).1.symm) ?_
        refine g_goto d_X7_load_43 ?_
        refine h_iret d_X7_load_72 rfl ?_
        exact ⟨rfl, _, _, rfl, hR.fr fr_thrown⟩
    · subst e1
      refine g_aload_n d_X6_load_58 rfl ?_
      refine h_getR d_X6_load_59 fl_6_26 sp_L rfl ?_
      refine h_getR d_X6_load_62 fl_6_186 (sp_hall hall_15) rfl ?_
      refine g_iload_n d_X6_load_65 rfl ?_
      refine hh_aldE (k := l) d_X6_load_66 (sp_h8 hall_15) (by decide) rfl (by omega) (by decide) ?_
      refine h_iret d_X6_load_67 rfl ?_
      refine ⟨_, rfl, ?_⟩
      rw [← mu_15]
      refine MtH.of [some (.ref 360), some (.int (nI l)), some (.int 1)] pl_X7 rfl rfl ?_
      refine g_aload_n d_X7_load_0 rfl ?_
      refine g_iconst d_X7_load_1 ik_0 ?_
      refine mm_putI d_X7_load_2 fl_7_62 sp_M rfl ?_
      refine g_aload_n d_X7_load_5 rfl ?_
      refine g_iload_n d_X7_load_6 rfl ?_
      refine h_V1i d_X7_load_7 cl_7_204 (m7_isLoad ((hs_j (by decide)).trans wN)) sp_M (by decide) rfl (Nat.le_of_ble_eq_true rfl) (by decide) ?_
      refine g_if_eq d_X7_load_10 (fun c10 => ?_) (fun c10 => ?_)
      · exfalso
        simp only [b2i_eq0, b2i_ne0, Int32.lt_iff_toInt_lt, Int32.le_iff_toInt_le, t_0, t_1, t_2, t_3, t_4, t_5, t_6, t_7, t_8, t_9, t_10, t_11, t_12, t_20, t_24, t_40, t_50, t_60, t_99, t_110, t_255, t_999, t_999999, t_m1, el, gM, gN, eM, eN, eM1, eN1] at *
        omega
      · refine g_iload_n d_X7_load_13 rfl ?_
        refine g_iconst d_X7_load_14 ik_0 ?_
        refine g_iconst d_X7_load_15 ik_4 ?_
        refine h_S3i d_X7_load_16 cl_7_70 m7_in (Nat.le_of_ble_eq_true rfl) (by decide) ?_
        refine g_if_ne d_X7_load_19 (fun c19 => ?_) (fun c19 => absurd c19 (by decide))
        refine g_iload_n d_X7_load_25 rfl ?_
        refine g_iconst d_X7_load_26 ik_3 ?_
        refine g_icmp_ge d_X7_load_27 (fun c27 => absurd c27 (by decide)) (fun c27 => ?_)
        refine g_iload_n d_X7_load_30 rfl ?_
        refine g_if_ne d_X7_load_31 (fun c31 => ?_) (fun c31 => absurd c31 (by decide))
        refine g_iload_n d_X7_load_46 rfl ?_
        refine g_iconst d_X7_load_47 ik_1 ?_
        refine g_icmp_ne d_X7_load_48 (fun c48 => absurd c48 (by decide)) (fun c48 => ?_)
        refine g_aload_n d_X7_load_51 rfl ?_
        refine h_getR d_X7_load_52 fl_7_31 sp_M rfl ?_
        refine g_bipush d_X7_load_55 bk_24 ?_
        refine g_iload_n d_X7_load_57 rfl ?_
        refine g_iadd d_X7_load_58 ?_
        refine mm_aldV (k := (24 + l)) (v := hv h 15 8 l) d_X7_load_59 (j := 8) sp_m_s rfl (by decide) (nAdd rfl rfl) (by omega) (by decide) ((hs_j (by decide)).trans (hS.2.1.2.2 l hl).2.1.symm) ?_
        refine g_goto d_X7_load_60 ?_
        refine h_iret d_X7_load_72 rfl ?_
        exact ⟨rfl, _, _, rfl, hR.fr fr_thrown⟩
    · subst e2
      refine g_aload_n d_X6_load_68 rfl ?_
      refine h_getR d_X6_load_69 fl_6_26 sp_L rfl ?_
      refine h_getR d_X6_load_72 fl_6_189 (sp_hall hall_15) rfl ?_
      refine g_iload_n d_X6_load_75 rfl ?_
      refine hh_aldE (k := l) d_X6_load_76 (sp_h9 hall_15) (by decide) rfl (by omega) (by decide) ?_
      refine h_iret d_X6_load_77 rfl ?_
      refine ⟨_, rfl, ?_⟩
      rw [← mu_15]
      refine MtH.of [some (.ref 360), some (.int (nI l)), some (.int 2)] pl_X7 rfl rfl ?_
      refine g_aload_n d_X7_load_0 rfl ?_
      refine g_iconst d_X7_load_1 ik_0 ?_
      refine mm_putI d_X7_load_2 fl_7_62 sp_M rfl ?_
      refine g_aload_n d_X7_load_5 rfl ?_
      refine g_iload_n d_X7_load_6 rfl ?_
      refine h_V1i d_X7_load_7 cl_7_204 (m7_isLoad ((hs_j (by decide)).trans wN)) sp_M (by decide) rfl (Nat.le_of_ble_eq_true rfl) (by decide) ?_
      refine g_if_eq d_X7_load_10 (fun c10 => ?_) (fun c10 => ?_)
      · exfalso
        simp only [b2i_eq0, b2i_ne0, Int32.lt_iff_toInt_lt, Int32.le_iff_toInt_le, t_0, t_1, t_2, t_3, t_4, t_5, t_6, t_7, t_8, t_9, t_10, t_11, t_12, t_20, t_24, t_40, t_50, t_60, t_99, t_110, t_255, t_999, t_999999, t_m1, el, gM, gN, eM, eN, eM1, eN1] at *
        omega
      · refine g_iload_n d_X7_load_13 rfl ?_
        refine g_iconst d_X7_load_14 ik_0 ?_
        refine g_iconst d_X7_load_15 ik_4 ?_
        refine h_S3i d_X7_load_16 cl_7_70 m7_in (Nat.le_of_ble_eq_true rfl) (by decide) ?_
        refine g_if_ne d_X7_load_19 (fun c19 => ?_) (fun c19 => absurd c19 (by decide))
        refine g_iload_n d_X7_load_25 rfl ?_
        refine g_iconst d_X7_load_26 ik_3 ?_
        refine g_icmp_ge d_X7_load_27 (fun c27 => absurd c27 (by decide)) (fun c27 => ?_)
        refine g_iload_n d_X7_load_30 rfl ?_
        refine g_if_ne d_X7_load_31 (fun c31 => ?_) (fun c31 => absurd c31 (by decide))
        refine g_iload_n d_X7_load_46 rfl ?_
        refine g_iconst d_X7_load_47 ik_1 ?_
        refine g_icmp_ne d_X7_load_48 (fun c48 => ?_) (fun c48 => absurd c48 (by decide))
        refine g_aload_n d_X7_load_63 rfl ?_
        refine h_getR d_X7_load_64 fl_7_31 sp_M rfl ?_
        refine g_bipush d_X7_load_67 bk_30 ?_
        refine g_iload_n d_X7_load_69 rfl ?_
        refine g_iadd d_X7_load_70 ?_
        refine mm_aldV (k := (30 + l)) (v := hv h 15 9 l) d_X7_load_71 (j := 8) sp_m_s rfl (by decide) (nAdd rfl rfl) (by omega) (by decide) ((hs_j (by decide)).trans (hS.2.1.2.2 l hl).2.2.1.symm) ?_
        refine h_iret d_X7_load_72 rfl ?_
        exact ⟨rfl, _, _, rfl, hR.fr fr_thrown⟩
    · subst e3
      refine g_aload_n d_X6_load_78 rfl ?_
      refine h_getR d_X6_load_79 fl_6_26 sp_L rfl ?_
      refine h_getR d_X6_load_82 fl_6_189 (sp_hall hall_15) rfl ?_
      refine g_iload_n d_X6_load_85 rfl ?_
      refine hh_aldE (k := l) d_X6_load_86 (sp_h9 hall_15) (by decide) rfl (by omega) (by decide) ?_
      refine g_iconst d_X6_load_87 ik_2 ?_
      refine g_icmp_ne d_X6_load_88 (fun c88 => ?_) (fun c88 => ?_)
      · refine g_ldc d_X6_load_103 kc_X6_220 ?_
        refine h_iret d_X6_load_105 rfl ?_
        refine ⟨_, rfl, ?_⟩
        rw [← mu_15]
        refine MtH.of [some (.ref 360), some (.int (nI l)), some (.int 3)] pl_X7 rfl rfl ?_
        refine g_aload_n d_X7_load_0 rfl ?_
        refine g_iconst d_X7_load_1 ik_0 ?_
        refine mm_putI d_X7_load_2 fl_7_62 sp_M rfl ?_
        refine g_aload_n d_X7_load_5 rfl ?_
        refine g_iload_n d_X7_load_6 rfl ?_
        refine h_V1i d_X7_load_7 cl_7_204 (m7_isLoad ((hs_j (by decide)).trans wN)) sp_M (by decide) rfl (Nat.le_of_ble_eq_true rfl) (by decide) ?_
        refine g_if_eq d_X7_load_10 (fun c10 => ?_) (fun c10 => ?_)
        · exfalso
          simp only [b2i_eq0, b2i_ne0, Int32.lt_iff_toInt_lt, Int32.le_iff_toInt_le, t_0, t_1, t_2, t_3, t_4, t_5, t_6, t_7, t_8, t_9, t_10, t_11, t_12, t_20, t_24, t_40, t_50, t_60, t_99, t_110, t_255, t_999, t_999999, t_m1, el, gM, gN, eM, eN, eM1, eN1] at *
          omega
        · refine g_iload_n d_X7_load_13 rfl ?_
          refine g_iconst d_X7_load_14 ik_0 ?_
          refine g_iconst d_X7_load_15 ik_4 ?_
          refine h_S3i d_X7_load_16 cl_7_70 m7_in (Nat.le_of_ble_eq_true rfl) (by decide) ?_
          refine g_if_ne d_X7_load_19 (fun c19 => ?_) (fun c19 => absurd c19 (by decide))
          refine g_iload_n d_X7_load_25 rfl ?_
          refine g_iconst d_X7_load_26 ik_3 ?_
          refine g_icmp_ge d_X7_load_27 (fun c27 => ?_) (fun c27 => absurd c27 (by decide))
          refine g_iload_n d_X7_load_73 rfl ?_
          refine g_iconst d_X7_load_74 ik_4 ?_
          refine g_icmp_ne d_X7_load_75 (fun c75 => ?_) (fun c75 => absurd c75 (by decide))
          refine g_aload_n d_X7_load_89 rfl ?_
          refine h_getR d_X7_load_90 fl_7_31 sp_M rfl ?_
          refine g_bipush d_X7_load_93 bk_30 ?_
          refine g_iload_n d_X7_load_95 rfl ?_
          refine g_iadd d_X7_load_96 ?_
          refine mm_aldV (k := (30 + l)) (v := hv h 15 9 l) d_X7_load_97 (j := 8) sp_m_s rfl (by decide) (nAdd rfl rfl) (by omega) (by decide) ((hs_j (by decide)).trans (hS.2.1.2.2 l hl).2.2.1.symm) ?_
          refine g_iconst d_X7_load_98 ik_2 ?_
          refine g_icmp_ne d_X7_load_99 (fun c99 => ?_) (fun c99 => ?_)
          · refine g_ldc d_X7_load_114 kc_X7_207 ?_
            refine h_iret d_X7_load_116 rfl ?_
            exact ⟨by first | rfl | exact absurd c99 c88 | exact absurd c88 c99, _, _, rfl, hR.fr fr_thrown⟩
          · refine g_aload_n d_X7_load_102 rfl ?_
            refine h_getR d_X7_load_103 fl_7_31 sp_M rfl ?_
            refine g_bipush d_X7_load_106 bk_36 ?_
            refine g_iload_n d_X7_load_108 rfl ?_
            refine g_iadd d_X7_load_109 ?_
            refine mm_aldV (k := (36 + l)) (v := hv h 15 10 l) d_X7_load_110 (j := 8) sp_m_s rfl (by decide) (nAdd rfl rfl) (by omega) (by decide) ((hs_j (by decide)).trans ((hS.2.1.2.2 l hl).2.2.2 c99).symm) ?_
            refine g_goto d_X7_load_111 ?_
            refine h_iret d_X7_load_116 rfl ?_
            exact ⟨by first | rfl | exact absurd c99 c88 | exact absurd c88 c99, _, _, rfl, hR.fr fr_thrown⟩
      · refine g_aload_n d_X6_load_91 rfl ?_
        refine h_getR d_X6_load_92 fl_6_26 sp_L rfl ?_
        refine h_getR d_X6_load_95 fl_6_217 (sp_hall hall_15) rfl ?_
        refine g_iload_n d_X6_load_98 rfl ?_
        refine hh_aldE (k := l) d_X6_load_99 (sp_h10 hall_15) (by decide) rfl (by omega) (by decide) ?_
        refine g_goto d_X6_load_100 ?_
        refine h_iret d_X6_load_105 rfl ?_
        refine ⟨_, rfl, ?_⟩
        rw [← mu_15]
        refine MtH.of [some (.ref 360), some (.int (nI l)), some (.int 3)] pl_X7 rfl rfl ?_
        refine g_aload_n d_X7_load_0 rfl ?_
        refine g_iconst d_X7_load_1 ik_0 ?_
        refine mm_putI d_X7_load_2 fl_7_62 sp_M rfl ?_
        refine g_aload_n d_X7_load_5 rfl ?_
        refine g_iload_n d_X7_load_6 rfl ?_
        refine h_V1i d_X7_load_7 cl_7_204 (m7_isLoad ((hs_j (by decide)).trans wN)) sp_M (by decide) rfl (Nat.le_of_ble_eq_true rfl) (by decide) ?_
        refine g_if_eq d_X7_load_10 (fun c10 => ?_) (fun c10 => ?_)
        · exfalso
          simp only [b2i_eq0, b2i_ne0, Int32.lt_iff_toInt_lt, Int32.le_iff_toInt_le, t_0, t_1, t_2, t_3, t_4, t_5, t_6, t_7, t_8, t_9, t_10, t_11, t_12, t_20, t_24, t_40, t_50, t_60, t_99, t_110, t_255, t_999, t_999999, t_m1, el, gM, gN, eM, eN, eM1, eN1] at *
          omega
        · refine g_iload_n d_X7_load_13 rfl ?_
          refine g_iconst d_X7_load_14 ik_0 ?_
          refine g_iconst d_X7_load_15 ik_4 ?_
          refine h_S3i d_X7_load_16 cl_7_70 m7_in (Nat.le_of_ble_eq_true rfl) (by decide) ?_
          refine g_if_ne d_X7_load_19 (fun c19 => ?_) (fun c19 => absurd c19 (by decide))
          refine g_iload_n d_X7_load_25 rfl ?_
          refine g_iconst d_X7_load_26 ik_3 ?_
          refine g_icmp_ge d_X7_load_27 (fun c27 => ?_) (fun c27 => absurd c27 (by decide))
          refine g_iload_n d_X7_load_73 rfl ?_
          refine g_iconst d_X7_load_74 ik_4 ?_
          refine g_icmp_ne d_X7_load_75 (fun c75 => ?_) (fun c75 => absurd c75 (by decide))
          refine g_aload_n d_X7_load_89 rfl ?_
          refine h_getR d_X7_load_90 fl_7_31 sp_M rfl ?_
          refine g_bipush d_X7_load_93 bk_30 ?_
          refine g_iload_n d_X7_load_95 rfl ?_
          refine g_iadd d_X7_load_96 ?_
          refine mm_aldV (k := (30 + l)) (v := hv h 15 9 l) d_X7_load_97 (j := 8) sp_m_s rfl (by decide) (nAdd rfl rfl) (by omega) (by decide) ((hs_j (by decide)).trans (hS.2.1.2.2 l hl).2.2.1.symm) ?_
          refine g_iconst d_X7_load_98 ik_2 ?_
          refine g_icmp_ne d_X7_load_99 (fun c99 => ?_) (fun c99 => ?_)
          · refine g_ldc d_X7_load_114 kc_X7_207 ?_
            refine h_iret d_X7_load_116 rfl ?_
            exact ⟨by first | rfl | exact absurd c99 c88 | exact absurd c88 c99, _, _, rfl, hR.fr fr_thrown⟩
          · refine g_aload_n d_X7_load_102 rfl ?_
            refine h_getR d_X7_load_103 fl_7_31 sp_M rfl ?_
            refine g_bipush d_X7_load_106 bk_36 ?_
            refine g_iload_n d_X7_load_108 rfl ?_
            refine g_iadd d_X7_load_109 ?_
            refine mm_aldV (k := (36 + l)) (v := hv h 15 10 l) d_X7_load_110 (j := 8) sp_m_s rfl (by decide) (nAdd rfl rfl) (by omega) (by decide) ((hs_j (by decide)).trans ((hS.2.1.2.2 l hl).2.2.2 c99).symm) ?_
            refine g_goto d_X7_load_111 ?_
            refine h_iret d_X7_load_116 rfl ?_
            exact ⟨by first | rfl | exact absurd c99 c88 | exact absurd c88 c99, _, _, rfl, hR.fr fr_thrown⟩
    · subst e4
      refine g_aload_n d_X6_load_106 rfl ?_
      refine h_getR d_X6_load_107 fl_6_26 sp_L rfl ?_
      refine g_iload_n d_X6_load_110 rfl ?_
      refine h_V1i d_X6_load_111 cl_6_221 (m_lateOf hall_15 rfl (by omega)) (sp_hall hall_15) (by decide) rfl (Nat.le_of_ble_eq_true rfl) (by decide) ?_
      refine h_iret d_X6_load_114 rfl ?_
      refine ⟨_, rfl, ?_⟩
      rw [← mu_15]
      refine MtH.of [some (.ref 360), some (.int (nI l)), some (.int 4)] pl_X7 rfl rfl ?_
      refine g_aload_n d_X7_load_0 rfl ?_
      refine g_iconst d_X7_load_1 ik_0 ?_
      refine mm_putI d_X7_load_2 fl_7_62 sp_M rfl ?_
      refine g_aload_n d_X7_load_5 rfl ?_
      refine g_iload_n d_X7_load_6 rfl ?_
      refine h_V1i d_X7_load_7 cl_7_204 (m7_isLoad ((hs_j (by decide)).trans wN)) sp_M (by decide) rfl (Nat.le_of_ble_eq_true rfl) (by decide) ?_
      refine g_if_eq d_X7_load_10 (fun c10 => ?_) (fun c10 => ?_)
      · exfalso
        simp only [b2i_eq0, b2i_ne0, Int32.lt_iff_toInt_lt, Int32.le_iff_toInt_le, t_0, t_1, t_2, t_3, t_4, t_5, t_6, t_7, t_8, t_9, t_10, t_11, t_12, t_20, t_24, t_40, t_50, t_60, t_99, t_110, t_255, t_999, t_999999, t_m1, el, gM, gN, eM, eN, eM1, eN1] at *
        omega
      · refine g_iload_n d_X7_load_13 rfl ?_
        refine g_iconst d_X7_load_14 ik_0 ?_
        refine g_iconst d_X7_load_15 ik_4 ?_
        refine h_S3i d_X7_load_16 cl_7_70 m7_in (Nat.le_of_ble_eq_true rfl) (by decide) ?_
        refine g_if_ne d_X7_load_19 (fun c19 => ?_) (fun c19 => absurd c19 (by decide))
        refine g_iload_n d_X7_load_25 rfl ?_
        refine g_iconst d_X7_load_26 ik_3 ?_
        refine g_icmp_ge d_X7_load_27 (fun c27 => ?_) (fun c27 => absurd c27 (by decide))
        refine g_iload_n d_X7_load_73 rfl ?_
        refine g_iconst d_X7_load_74 ik_4 ?_
        refine g_icmp_ne d_X7_load_75 (fun c75 => absurd c75 (by decide)) (fun c75 => ?_)
        refine g_aload_n d_X7_load_78 rfl ?_
        refine h_getR d_X7_load_79 fl_7_31 sp_M rfl ?_
        refine g_iload_n d_X7_load_82 rfl ?_
        refine h_S2i d_X7_load_83 cl_7_187 (m7_lateOf ar_s (hS.2.1.th hM5 hN6) hN6 hl rfl) (Nat.le_of_ble_eq_true rfl) (by decide) ?_
        refine g_goto d_X7_load_86 ?_
        refine h_iret d_X7_load_116 rfl ?_
        exact ⟨rfl, _, _, rfl, hR.fr fr_thrown⟩
    · refine g_ldc d_X6_load_115 kc_X6_66 ?_
      refine h_iret d_X6_load_117 rfl ?_
      refine ⟨_, rfl, ?_⟩
      rw [← mu_15]
      refine MtH.of [some (.ref 360), some (.int (nI l)), some (.int y)] pl_X7 rfl rfl ?_
      refine g_aload_n d_X7_load_0 rfl ?_
      refine g_iconst d_X7_load_1 ik_0 ?_
      refine mm_putI d_X7_load_2 fl_7_62 sp_M rfl ?_
      refine g_aload_n d_X7_load_5 rfl ?_
      refine g_iload_n d_X7_load_6 rfl ?_
      refine h_V1i d_X7_load_7 cl_7_204 (m7_isLoad ((hs_j (by decide)).trans wN)) sp_M (by decide) rfl (Nat.le_of_ble_eq_true rfl) (by decide) ?_
      refine g_if_eq d_X7_load_10 (fun c10 => ?_) (fun c10 => ?_)
      · refine g_ldc d_X7_load_22 kc_X7_78 ?_
        refine h_iret d_X7_load_24 rfl ?_
        exact ⟨rfl, _, _, rfl, hR.fr fr_thrown⟩
      · refine g_iload_n d_X7_load_13 rfl ?_
        refine g_iconst d_X7_load_14 ik_0 ?_
        refine g_iconst d_X7_load_15 ik_4 ?_
        refine h_S3i d_X7_load_16 cl_7_70 m7_in (Nat.le_of_ble_eq_true rfl) (by decide) ?_
        refine g_if_ne d_X7_load_19 (fun c19 => ?_) (fun c19 => ?_)
        · exfalso
          have z0 : ¬ y.toInt = 0 := fun z => q0 (Int32.toInt_inj.mp (z.trans t_0.symm))
          have z1 : ¬ y.toInt = 1 := fun z => q1 (Int32.toInt_inj.mp (z.trans t_1.symm))
          have z2 : ¬ y.toInt = 2 := fun z => q2 (Int32.toInt_inj.mp (z.trans t_2.symm))
          have z3 : ¬ y.toInt = 3 := fun z => q3 (Int32.toInt_inj.mp (z.trans t_3.symm))
          have z4 : ¬ y.toInt = 4 := fun z => q4 (Int32.toInt_inj.mp (z.trans t_4.symm))
          clear q0 q1 q2 q3 q4
          simp only [b2i_eq0, b2i_ne0, Int32.lt_iff_toInt_lt, Int32.le_iff_toInt_le, t_0, t_1, t_2, t_3, t_4, t_5, t_6, t_7, t_8, t_9, t_10, t_11, t_12, t_20, t_24, t_40, t_50, t_60, t_99, t_110, t_255, t_999, t_999999, t_m1, el, gM, gN, eM, eN, eM1, eN1] at *
          omega
        · refine g_ldc d_X7_load_22 kc_X7_78 ?_
          refine h_iret d_X7_load_24 rfl ?_
          exact ⟨rfl, _, _, rfl, hR.fr fr_thrown⟩
  · refine g_ldc d_X6_load_11 kc_X6_66 ?_
    refine h_iret d_X6_load_13 rfl ?_
    refine ⟨_, rfl, ?_⟩
    rw [← mu_15]
    refine MtH.of [some (.ref 360), some (.int x), some (.int y)] pl_X7 rfl rfl ?_
    refine g_aload_n d_X7_load_0 rfl ?_
    refine g_iconst d_X7_load_1 ik_0 ?_
    refine mm_putI d_X7_load_2 fl_7_62 sp_M rfl ?_
    refine g_aload_n d_X7_load_5 rfl ?_
    refine g_iload_n d_X7_load_6 rfl ?_
    refine h_V1i d_X7_load_7 cl_7_204 (m7_isLoad ((hs_j (by decide)).trans wN)) sp_M (by decide) rfl (Nat.le_of_ble_eq_true rfl) (by decide) ?_
    refine g_if_eq d_X7_load_10 (fun c10 => ?_) (fun c10 => ?_)
    · refine g_ldc d_X7_load_22 kc_X7_78 ?_
      refine h_iret d_X7_load_24 rfl ?_
      exact ⟨rfl, _, _, rfl, hR.fr fr_thrown⟩
    · refine g_iload_n d_X7_load_13 rfl ?_
      refine g_iconst d_X7_load_14 ik_0 ?_
      refine g_iconst d_X7_load_15 ik_4 ?_
      refine h_S3i d_X7_load_16 cl_7_70 m7_in (Nat.le_of_ble_eq_true rfl) (by decide) ?_
      refine g_if_ne d_X7_load_19 (fun c19 => ?_) (fun c19 => ?_)
      · exfalso
        simp only [b2i_eq0, b2i_ne0, Int32.lt_iff_toInt_lt, Int32.le_iff_toInt_le, t_0, t_1, t_2, t_3, t_4, t_5, t_6, t_7, t_8, t_9, t_10, t_11, t_12, t_20, t_24, t_40, t_50, t_60, t_99, t_110, t_255, t_999, t_999999, t_m1, gM, gN, eM, eN, eM1, eN1] at *
        omega
      · refine g_ldc d_X7_load_22 kc_X7_78 ?_
        refine h_iret d_X7_load_24 rfl ?_
        exact ⟨rfl, _, _, rfl, hR.fr fr_thrown⟩
theorem op_lasts {h w : Hv} (hR : RelP h w) {x y : Int32} : OPI M_X6_lasts M_X7_lasts 2 2 [.int x, .int y] (mu h w) := by
  obtain ⟨M, N, hM5, hN6, gM, wM, gN, wN, hZ⟩ := hR.mn
  have eM : (nI M).toInt = M := nI_toInt (by omega)
  have eN : (nI N).toInt = N := nI_toInt (by omega)
  have eM1 := nI_predI (t := M) (by omega)
  have eN1 := nI_predI (t := N) (by omega)
  rw [mu_15]
  refine MtH.of [some (.ref 0), some (.int x), some (.int y)] pl_X6 rfl rfl ?_
  refine g_aload_n d_X6_lasts_0 rfl ?_
  refine h_getR d_X6_lasts_1 fl_6_26 sp_L rfl ?_
  refine g_iload_n d_X6_lasts_4 rfl ?_
  refine h_V1i d_X6_lasts_5 cl_6_170 (m_hasMachine hall_15) (sp_hall hall_15) (by decide) rfl (Nat.le_of_ble_eq_true rfl) (by decide) ?_
  refine g_if_eq d_X6_lasts_8 (fun c8 => ?_) (fun c8 => ?_)
  · refine g_ldc d_X6_lasts_22 kc_X6_66 ?_
    refine h_iret d_X6_lasts_24 rfl ?_
    refine ⟨_, rfl, ?_⟩
    rw [← mu_15]
    refine MtH.of [some (.ref 360), some (.int x), some (.int y)] pl_X7 rfl rfl ?_
    refine g_aload_n d_X7_lasts_0 rfl ?_
    refine g_iconst d_X7_lasts_1 ik_0 ?_
    refine mm_putI d_X7_lasts_2 fl_7_62 sp_M rfl ?_
    refine g_aload_n d_X7_lasts_5 rfl ?_
    refine g_iload_n d_X7_lasts_6 rfl ?_
    refine h_V1i d_X7_lasts_7 cl_7_201 (m7_isMachine ((hs_j (by decide)).trans wM)) sp_M (by decide) rfl (Nat.le_of_ble_eq_true rfl) (by decide) ?_
    refine g_if_eq d_X7_lasts_10 (fun c10 => ?_) (fun c10 => ?_)
    · refine g_ldc d_X7_lasts_37 kc_X7_78 ?_
      refine h_iret d_X7_lasts_39 rfl ?_
      exact ⟨rfl, _, _, rfl, hR.fr fr_thrown⟩
    · refine g_aload_n d_X7_lasts_13 rfl ?_
      refine g_iload_n d_X7_lasts_14 rfl ?_
      refine h_V1i d_X7_lasts_15 cl_7_204 (m7_isLoad ((hs_j (by decide)).trans wN)) sp_M (by decide) rfl (Nat.le_of_ble_eq_true rfl) (by decide) ?_
      refine g_if_eq d_X7_lasts_18 (fun c18 => ?_) (fun c18 => ?_)
      · refine g_ldc d_X7_lasts_37 kc_X7_78 ?_
        refine h_iret d_X7_lasts_39 rfl ?_
        exact ⟨rfl, _, _, rfl, hR.fr fr_thrown⟩
      · exfalso
        simp only [b2i_eq0, b2i_ne0, Int32.lt_iff_toInt_lt, Int32.le_iff_toInt_le, t_0, t_1, t_2, t_3, t_4, t_5, t_6, t_7, t_8, t_9, t_10, t_11, t_12, t_20, t_24, t_40, t_50, t_60, t_99, t_110, t_255, t_999, t_999999, t_m1, gM, gN, eM, eN, eM1, eN1] at *
        omega
  · refine g_aload_n d_X6_lasts_11 rfl ?_
    refine h_getR d_X6_lasts_12 fl_6_26 sp_L rfl ?_
    refine g_iload_n d_X6_lasts_15 rfl ?_
    refine h_V1i d_X6_lasts_16 cl_6_183 (m_hasLoad hall_15) (sp_hall hall_15) (by decide) rfl (Nat.le_of_ble_eq_true rfl) (by decide) ?_
    refine g_if_ne d_X6_lasts_19 (fun c19 => ?_) (fun c19 => ?_)
    · obtain ⟨r, hr, rfl⟩ := rngI (x := x) (B := M) (by simp only [b2i_eq0, b2i_ne0, Int32.lt_iff_toInt_lt, Int32.le_iff_toInt_le, t_0, t_1, t_2, t_3, t_4, t_5, t_6, t_7, t_8, t_9, t_10, t_11, t_12, t_20, t_24, t_40, t_50, t_60, t_99, t_110, t_255, t_999, t_999999, t_m1, gM, gN, eM, eN, eM1, eN1] at *; omega) (by simp only [b2i_eq0, b2i_ne0, Int32.lt_iff_toInt_lt, Int32.le_iff_toInt_le, t_0, t_1, t_2, t_3, t_4, t_5, t_6, t_7, t_8, t_9, t_10, t_11, t_12, t_20, t_24, t_40, t_50, t_60, t_99, t_110, t_255, t_999, t_999999, t_m1, gM, gN, eM, eN, eM1, eN1] at *; omega)
      have er : (nI r).toInt = r := nI_toInt (by omega)
      obtain ⟨l, hl, rfl⟩ := rngI (x := y) (B := N) (by simp only [b2i_eq0, b2i_ne0, Int32.lt_iff_toInt_lt, Int32.le_iff_toInt_le, t_0, t_1, t_2, t_3, t_4, t_5, t_6, t_7, t_8, t_9, t_10, t_11, t_12, t_20, t_24, t_40, t_50, t_60, t_99, t_110, t_255, t_999, t_999999, t_m1, er, gM, gN, eM, eN, eM1, eN1] at *; omega) (by simp only [b2i_eq0, b2i_ne0, Int32.lt_iff_toInt_lt, Int32.le_iff_toInt_le, t_0, t_1, t_2, t_3, t_4, t_5, t_6, t_7, t_8, t_9, t_10, t_11, t_12, t_20, t_24, t_40, t_50, t_60, t_99, t_110, t_255, t_999, t_999999, t_m1, er, gM, gN, eM, eN, eM1, eN1] at *; omega)
      have el : (nI l).toInt = l := nI_toInt (by omega)
      obtain ⟨i0, c0, hi0, hi1, hS, hA, hO⟩ := (hZ.resolve_left (fun z => by have := z.1; have := z.2.1; omega)).2.2
      have hI := hS.1
      refine g_aload_n d_X6_lasts_25 rfl ?_
      refine h_getR d_X6_lasts_26 fl_6_26 sp_L rfl ?_
      refine g_iload_n d_X6_lasts_29 rfl ?_
      refine g_iload_n d_X6_lasts_30 rfl ?_
      refine h_V2i d_X6_lasts_31 cl_6_224 (m_lastsWith hall_15 rfl (by omega) rfl (by omega)) (sp_hall hall_15) (by decide) rfl (Nat.le_of_ble_eq_true rfl) (by decide) ?_
      refine h_iret d_X6_lasts_34 rfl ?_
      refine ⟨_, rfl, ?_⟩
      rw [← mu_15]
      refine MtH.of [some (.ref 360), some (.int (nI r)), some (.int (nI l))] pl_X7 rfl rfl ?_
      refine g_aload_n d_X7_lasts_0 rfl ?_
      refine g_iconst d_X7_lasts_1 ik_0 ?_
      refine mm_putI d_X7_lasts_2 fl_7_62 sp_M rfl ?_
      refine g_aload_n d_X7_lasts_5 rfl ?_
      refine g_iload_n d_X7_lasts_6 rfl ?_
      refine h_V1i d_X7_lasts_7 cl_7_201 (m7_isMachine ((hs_j (by decide)).trans wM)) sp_M (by decide) rfl (Nat.le_of_ble_eq_true rfl) (by decide) ?_
      refine g_if_eq d_X7_lasts_10 (fun c10 => ?_) (fun c10 => ?_)
      · exfalso
        simp only [b2i_eq0, b2i_ne0, Int32.lt_iff_toInt_lt, Int32.le_iff_toInt_le, t_0, t_1, t_2, t_3, t_4, t_5, t_6, t_7, t_8, t_9, t_10, t_11, t_12, t_20, t_24, t_40, t_50, t_60, t_99, t_110, t_255, t_999, t_999999, t_m1, er, el, gM, gN, eM, eN, eM1, eN1] at *
        omega
      · refine g_aload_n d_X7_lasts_13 rfl ?_
        refine g_iload_n d_X7_lasts_14 rfl ?_
        refine h_V1i d_X7_lasts_15 cl_7_204 (m7_isLoad ((hs_j (by decide)).trans wN)) sp_M (by decide) rfl (Nat.le_of_ble_eq_true rfl) (by decide) ?_
        refine g_if_eq d_X7_lasts_18 (fun c18 => ?_) (fun c18 => ?_)
        · exfalso
          simp only [b2i_eq0, b2i_ne0, Int32.lt_iff_toInt_lt, Int32.le_iff_toInt_le, t_0, t_1, t_2, t_3, t_4, t_5, t_6, t_7, t_8, t_9, t_10, t_11, t_12, t_20, t_24, t_40, t_50, t_60, t_99, t_110, t_255, t_999, t_999999, t_m1, er, el, gM, gN, eM, eN, eM1, eN1] at *
          omega
        · refine g_aload_n d_X7_lasts_21 rfl ?_
          refine h_getR d_X7_lasts_22 fl_7_28 sp_M rfl ?_
          refine g_aload_n d_X7_lasts_25 rfl ?_
          refine h_getR d_X7_lasts_26 fl_7_31 sp_M rfl ?_
          refine g_iload_n d_X7_lasts_29 rfl ?_
          refine g_iload_n d_X7_lasts_30 rfl ?_
          refine h_S4i d_X7_lasts_31 cl_7_170 (m7_lastsOf0 ar_d ar_s (hS.2.1.th hM5 hN6) hI.hl hr hl rfl rfl) (Nat.le_of_ble_eq_true rfl) (by decide) ?_
          refine g_goto d_X7_lasts_34 ?_
          refine h_iret d_X7_lasts_39 rfl ?_
          exact ⟨rfl, _, _, rfl, hR.fr fr_thrown⟩
    · refine g_ldc d_X6_lasts_22 kc_X6_66 ?_
      refine h_iret d_X6_lasts_24 rfl ?_
      refine ⟨_, rfl, ?_⟩
      rw [← mu_15]
      refine MtH.of [some (.ref 360), some (.int x), some (.int y)] pl_X7 rfl rfl ?_
      refine g_aload_n d_X7_lasts_0 rfl ?_
      refine g_iconst d_X7_lasts_1 ik_0 ?_
      refine mm_putI d_X7_lasts_2 fl_7_62 sp_M rfl ?_
      refine g_aload_n d_X7_lasts_5 rfl ?_
      refine g_iload_n d_X7_lasts_6 rfl ?_
      refine h_V1i d_X7_lasts_7 cl_7_201 (m7_isMachine ((hs_j (by decide)).trans wM)) sp_M (by decide) rfl (Nat.le_of_ble_eq_true rfl) (by decide) ?_
      refine g_if_eq d_X7_lasts_10 (fun c10 => ?_) (fun c10 => ?_)
      · refine g_ldc d_X7_lasts_37 kc_X7_78 ?_
        refine h_iret d_X7_lasts_39 rfl ?_
        exact ⟨rfl, _, _, rfl, hR.fr fr_thrown⟩
      · refine g_aload_n d_X7_lasts_13 rfl ?_
        refine g_iload_n d_X7_lasts_14 rfl ?_
        refine h_V1i d_X7_lasts_15 cl_7_204 (m7_isLoad ((hs_j (by decide)).trans wN)) sp_M (by decide) rfl (Nat.le_of_ble_eq_true rfl) (by decide) ?_
        refine g_if_eq d_X7_lasts_18 (fun c18 => ?_) (fun c18 => ?_)
        · refine g_ldc d_X7_lasts_37 kc_X7_78 ?_
          refine h_iret d_X7_lasts_39 rfl ?_
          exact ⟨rfl, _, _, rfl, hR.fr fr_thrown⟩
        · exfalso
          simp only [b2i_eq0, b2i_ne0, Int32.lt_iff_toInt_lt, Int32.le_iff_toInt_le, t_0, t_1, t_2, t_3, t_4, t_5, t_6, t_7, t_8, t_9, t_10, t_11, t_12, t_20, t_24, t_40, t_50, t_60, t_99, t_110, t_255, t_999, t_999999, t_m1, gM, gN, eM, eN, eM1, eN1] at *
          omega
theorem op_stand {h w : Hv} (hR : RelP h w) {x : Int32} : OPI M_X6_stand M_X7_stand 3 3 [.int x] (mu h w) := by
  obtain ⟨M, N, hM5, hN6, gM, wM, gN, wN, hZ⟩ := hR.mn
  have eM : (nI M).toInt = M := nI_toInt (by omega)
  have eN : (nI N).toInt = N := nI_toInt (by omega)
  have eM1 := nI_predI (t := M) (by omega)
  have eN1 := nI_predI (t := N) (by omega)
  rw [mu_15]
  refine MtH.of [some (.ref 0), some (.int x)] pl_X6 rfl rfl ?_
  refine g_aload_n d_X6_stand_0 rfl ?_
  refine h_getR d_X6_stand_1 fl_6_26 sp_L rfl ?_
  refine h_V0i d_X6_stand_4 cl_6_154 (m_isNone hall_15) (sp_hall hall_15) (by decide) rfl (Nat.le_of_ble_eq_true rfl) (by decide) ?_
  refine g_if_eq d_X6_stand_7 (fun c7 => ?_) (fun c7 => ?_)
  · have hM0 : ¬ nI M = 0 := fun z => b2i_eq0.mp c7 (gM.trans z)
    obtain ⟨i0, c0, hi0, hi1, hS, hA, hO⟩ := (hZ.resolve_left (fun z => hM0 (by rw [z.1]; rfl))).2.2
    have hI := hS.1
    refine g_iload_n d_X6_stand_13 rfl ?_
    refine sw_X6_stand_14 (fun e0 => ?_) (fun e1 => ?_) (fun e2 => ?_) (fun e3 => ?_) (fun e4 => ?_) (fun e5 => ?_) (fun q0 q1 q2 q3 q4 q5 => ?_)
    · subst e0
      refine g_aload_n d_X6_stand_52 rfl ?_
      refine h_getR d_X6_stand_53 fl_6_26 sp_L rfl ?_
      refine hh_getI d_X6_stand_56 fl_6_180 hall_15 (by decide) ?_
      refine h_iret d_X6_stand_59 rfl ?_
      refine ⟨_, rfl, ?_⟩
      rw [← mu_15]
      refine MtH.of [some (.ref 360), some (.int 0)] pl_X7 rfl rfl ?_
      refine g_aload_n d_X7_stand_0 rfl ?_
      refine g_iconst d_X7_stand_1 ik_0 ?_
      refine mm_putI d_X7_stand_2 fl_7_62 sp_M rfl ?_
      refine g_aload_n d_X7_stand_5 rfl ?_
      refine h_V0i d_X7_stand_6 cl_7_195 (m7_isNothing ((hs_j (by decide)).trans wM)) sp_M (by decide) rfl (Nat.le_of_ble_eq_true rfl) (by decide) ?_
      refine g_if_eq d_X7_stand_9 (fun c9 => ?_) (fun c9 => ?_)
      · refine g_iload_n d_X7_stand_15 rfl ?_
        refine g_iconst d_X7_stand_16 ik_0 ?_
        refine g_iconst d_X7_stand_17 ik_5 ?_
        refine h_S3i d_X7_stand_18 cl_7_70 m7_in (Nat.le_of_ble_eq_true rfl) (by decide) ?_
        refine g_if_ne d_X7_stand_21 (fun c21 => ?_) (fun c21 => absurd c21 (by decide))
        refine g_iload_n d_X7_stand_27 rfl ?_
        refine g_if_ne d_X7_stand_28 (fun c28 => absurd c28 (by decide)) (fun c28 => ?_)
        refine g_aload_n d_X7_stand_31 rfl ?_
        refine h_getR d_X7_stand_32 fl_7_31 sp_M rfl ?_
        refine g_iconst d_X7_stand_35 ik_1 ?_
        refine mm_aldV (k := 1) (v := hv h 15 0 0) d_X7_stand_36 (j := 8) sp_m_s rfl (by decide) rfl (by omega) (by decide) ((hs_j (by decide)).trans hS.2.1.1.1.symm) ?_
        refine g_goto d_X7_stand_37 ?_
        refine h_iret d_X7_stand_77 rfl ?_
        exact ⟨rfl, _, _, rfl, hR.fr fr_thrown⟩
      · exact absurd (b2i_ne0.mp c9) hM0
    · subst e1
      refine g_aload_n d_X6_stand_60 rfl ?_
      refine h_getR d_X6_stand_61 fl_6_26 sp_L rfl ?_
      refine g_iconst d_X6_stand_64 ik_0 ?_
      refine h_V1i d_X6_stand_65 cl_6_167 (m_whichAre hall_15 gN hN6) (sp_hall hall_15) (by decide) rfl (Nat.le_of_ble_eq_true rfl) (by decide) ?_
      refine h_iret d_X6_stand_68 rfl ?_
      refine ⟨_, rfl, ?_⟩
      rw [← mu_15]
      refine MtH.of [some (.ref 360), some (.int 1)] pl_X7 rfl rfl ?_
      refine g_aload_n d_X7_stand_0 rfl ?_
      refine g_iconst d_X7_stand_1 ik_0 ?_
      refine mm_putI d_X7_stand_2 fl_7_62 sp_M rfl ?_
      refine g_aload_n d_X7_stand_5 rfl ?_
      refine h_V0i d_X7_stand_6 cl_7_195 (m7_isNothing ((hs_j (by decide)).trans wM)) sp_M (by decide) rfl (Nat.le_of_ble_eq_true rfl) (by decide) ?_
      refine g_if_eq d_X7_stand_9 (fun c9 => ?_) (fun c9 => ?_)
      · refine g_iload_n d_X7_stand_15 rfl ?_
        refine g_iconst d_X7_stand_16 ik_0 ?_
        refine g_iconst d_X7_stand_17 ik_5 ?_
        refine h_S3i d_X7_stand_18 cl_7_70 m7_in (Nat.le_of_ble_eq_true rfl) (by decide) ?_
        refine g_if_ne d_X7_stand_21 (fun c21 => ?_) (fun c21 => absurd c21 (by decide))
        refine g_iload_n d_X7_stand_27 rfl ?_
        refine g_if_ne d_X7_stand_28 (fun c28 => ?_) (fun c28 => absurd c28 (by decide))
        refine g_iload_n d_X7_stand_40 rfl ?_
        refine g_iconst d_X7_stand_41 ik_4 ?_
        refine g_icmp_ge d_X7_stand_42 (fun c42 => absurd c42 (by decide)) (fun c42 => ?_)
        refine g_aload_n d_X7_stand_45 rfl ?_
        refine g_aload_n d_X7_stand_46 rfl ?_
        refine h_getR d_X7_stand_47 fl_7_31 sp_M rfl ?_
        refine g_iload_n d_X7_stand_50 rfl ?_
        refine g_iconst d_X7_stand_51 ik_1 ?_
        refine g_isub d_X7_stand_52 ?_
        refine h_V2i d_X7_stand_53 cl_7_191 (m7_howAll ar_s (hS.2.1.th hM5 hN6) hN6 ((hs_j (by decide)).trans wN)) sp_M (by decide) rfl (Nat.le_of_ble_eq_true rfl) (by decide) ?_
        refine g_goto d_X7_stand_56 ?_
        refine h_iret d_X7_stand_77 rfl ?_
        exact ⟨rfl, _, _, rfl, hR.fr fr_thrown⟩
      · exact absurd (b2i_ne0.mp c9) hM0
    · subst e2
      refine g_aload_n d_X6_stand_69 rfl ?_
      refine h_getR d_X6_stand_70 fl_6_26 sp_L rfl ?_
      refine g_iconst d_X6_stand_73 ik_1 ?_
      refine h_V1i d_X6_stand_74 cl_6_167 (m_whichAre hall_15 gN hN6) (sp_hall hall_15) (by decide) rfl (Nat.le_of_ble_eq_true rfl) (by decide) ?_
      refine h_iret d_X6_stand_77 rfl ?_
      refine ⟨_, rfl, ?_⟩
      rw [← mu_15]
      refine MtH.of [some (.ref 360), some (.int 2)] pl_X7 rfl rfl ?_
      refine g_aload_n d_X7_stand_0 rfl ?_
      refine g_iconst d_X7_stand_1 ik_0 ?_
      refine mm_putI d_X7_stand_2 fl_7_62 sp_M rfl ?_
      refine g_aload_n d_X7_stand_5 rfl ?_
      refine h_V0i d_X7_stand_6 cl_7_195 (m7_isNothing ((hs_j (by decide)).trans wM)) sp_M (by decide) rfl (Nat.le_of_ble_eq_true rfl) (by decide) ?_
      refine g_if_eq d_X7_stand_9 (fun c9 => ?_) (fun c9 => ?_)
      · refine g_iload_n d_X7_stand_15 rfl ?_
        refine g_iconst d_X7_stand_16 ik_0 ?_
        refine g_iconst d_X7_stand_17 ik_5 ?_
        refine h_S3i d_X7_stand_18 cl_7_70 m7_in (Nat.le_of_ble_eq_true rfl) (by decide) ?_
        refine g_if_ne d_X7_stand_21 (fun c21 => ?_) (fun c21 => absurd c21 (by decide))
        refine g_iload_n d_X7_stand_27 rfl ?_
        refine g_if_ne d_X7_stand_28 (fun c28 => ?_) (fun c28 => absurd c28 (by decide))
        refine g_iload_n d_X7_stand_40 rfl ?_
        refine g_iconst d_X7_stand_41 ik_4 ?_
        refine g_icmp_ge d_X7_stand_42 (fun c42 => absurd c42 (by decide)) (fun c42 => ?_)
        refine g_aload_n d_X7_stand_45 rfl ?_
        refine g_aload_n d_X7_stand_46 rfl ?_
        refine h_getR d_X7_stand_47 fl_7_31 sp_M rfl ?_
        refine g_iload_n d_X7_stand_50 rfl ?_
        refine g_iconst d_X7_stand_51 ik_1 ?_
        refine g_isub d_X7_stand_52 ?_
        refine h_V2i d_X7_stand_53 cl_7_191 (m7_howAll ar_s (hS.2.1.th hM5 hN6) hN6 ((hs_j (by decide)).trans wN)) sp_M (by decide) rfl (Nat.le_of_ble_eq_true rfl) (by decide) ?_
        refine g_goto d_X7_stand_56 ?_
        refine h_iret d_X7_stand_77 rfl ?_
        exact ⟨rfl, _, _, rfl, hR.fr fr_thrown⟩
      · exact absurd (b2i_ne0.mp c9) hM0
    · subst e3
      refine g_aload_n d_X6_stand_78 rfl ?_
      refine h_getR d_X6_stand_79 fl_6_26 sp_L rfl ?_
      refine g_iconst d_X6_stand_82 ik_2 ?_
      refine h_V1i d_X6_stand_83 cl_6_167 (m_whichAre hall_15 gN hN6) (sp_hall hall_15) (by decide) rfl (Nat.le_of_ble_eq_true rfl) (by decide) ?_
      refine h_iret d_X6_stand_86 rfl ?_
      refine ⟨_, rfl, ?_⟩
      rw [← mu_15]
      refine MtH.of [some (.ref 360), some (.int 3)] pl_X7 rfl rfl ?_
      refine g_aload_n d_X7_stand_0 rfl ?_
      refine g_iconst d_X7_stand_1 ik_0 ?_
      refine mm_putI d_X7_stand_2 fl_7_62 sp_M rfl ?_
      refine g_aload_n d_X7_stand_5 rfl ?_
      refine h_V0i d_X7_stand_6 cl_7_195 (m7_isNothing ((hs_j (by decide)).trans wM)) sp_M (by decide) rfl (Nat.le_of_ble_eq_true rfl) (by decide) ?_
      refine g_if_eq d_X7_stand_9 (fun c9 => ?_) (fun c9 => ?_)
      · refine g_iload_n d_X7_stand_15 rfl ?_
        refine g_iconst d_X7_stand_16 ik_0 ?_
        refine g_iconst d_X7_stand_17 ik_5 ?_
        refine h_S3i d_X7_stand_18 cl_7_70 m7_in (Nat.le_of_ble_eq_true rfl) (by decide) ?_
        refine g_if_ne d_X7_stand_21 (fun c21 => ?_) (fun c21 => absurd c21 (by decide))
        refine g_iload_n d_X7_stand_27 rfl ?_
        refine g_if_ne d_X7_stand_28 (fun c28 => ?_) (fun c28 => absurd c28 (by decide))
        refine g_iload_n d_X7_stand_40 rfl ?_
        refine g_iconst d_X7_stand_41 ik_4 ?_
        refine g_icmp_ge d_X7_stand_42 (fun c42 => absurd c42 (by decide)) (fun c42 => ?_)
        refine g_aload_n d_X7_stand_45 rfl ?_
        refine g_aload_n d_X7_stand_46 rfl ?_
        refine h_getR d_X7_stand_47 fl_7_31 sp_M rfl ?_
        refine g_iload_n d_X7_stand_50 rfl ?_
        refine g_iconst d_X7_stand_51 ik_1 ?_
        refine g_isub d_X7_stand_52 ?_
        refine h_V2i d_X7_stand_53 cl_7_191 (m7_howAll ar_s (hS.2.1.th hM5 hN6) hN6 ((hs_j (by decide)).trans wN)) sp_M (by decide) rfl (Nat.le_of_ble_eq_true rfl) (by decide) ?_
        refine g_goto d_X7_stand_56 ?_
        refine h_iret d_X7_stand_77 rfl ?_
        exact ⟨rfl, _, _, rfl, hR.fr fr_thrown⟩
      · exact absurd (b2i_ne0.mp c9) hM0
    · subst e4
      refine g_aload_n d_X6_stand_87 rfl ?_
      refine h_getR d_X6_stand_88 fl_6_26 sp_L rfl ?_
      refine hh_getI d_X6_stand_91 fl_6_228 hall_15 (by decide) ?_
      refine h_iret d_X6_stand_94 rfl ?_
      refine ⟨_, rfl, ?_⟩
      rw [← mu_15]
      refine MtH.of [some (.ref 360), some (.int 4)] pl_X7 rfl rfl ?_
      refine g_aload_n d_X7_stand_0 rfl ?_
      refine g_iconst d_X7_stand_1 ik_0 ?_
      refine mm_putI d_X7_stand_2 fl_7_62 sp_M rfl ?_
      refine g_aload_n d_X7_stand_5 rfl ?_
      refine h_V0i d_X7_stand_6 cl_7_195 (m7_isNothing ((hs_j (by decide)).trans wM)) sp_M (by decide) rfl (Nat.le_of_ble_eq_true rfl) (by decide) ?_
      refine g_if_eq d_X7_stand_9 (fun c9 => ?_) (fun c9 => ?_)
      · refine g_iload_n d_X7_stand_15 rfl ?_
        refine g_iconst d_X7_stand_16 ik_0 ?_
        refine g_iconst d_X7_stand_17 ik_5 ?_
        refine h_S3i d_X7_stand_18 cl_7_70 m7_in (Nat.le_of_ble_eq_true rfl) (by decide) ?_
        refine g_if_ne d_X7_stand_21 (fun c21 => ?_) (fun c21 => absurd c21 (by decide))
        refine g_iload_n d_X7_stand_27 rfl ?_
        refine g_if_ne d_X7_stand_28 (fun c28 => ?_) (fun c28 => absurd c28 (by decide))
        refine g_iload_n d_X7_stand_40 rfl ?_
        refine g_iconst d_X7_stand_41 ik_4 ?_
        refine g_icmp_ge d_X7_stand_42 (fun c42 => ?_) (fun c42 => absurd c42 (by decide))
        refine g_iload_n d_X7_stand_59 rfl ?_
        refine g_iconst d_X7_stand_60 ik_4 ?_
        refine g_icmp_ne d_X7_stand_61 (fun c61 => absurd c61 (by decide)) (fun c61 => ?_)
        refine g_aload_n d_X7_stand_64 rfl ?_
        refine h_getR d_X7_stand_65 fl_7_31 sp_M rfl ?_
        refine g_iconst d_X7_stand_68 ik_2 ?_
        refine mm_aldV (k := 2) (v := hv h 15 0 4) d_X7_stand_69 (j := 8) sp_m_s rfl (by decide) rfl (by omega) (by decide) ((hs_j (by decide)).trans hS.2.1.1.2.2.2.2.symm) ?_
        refine g_goto d_X7_stand_70 ?_
        refine h_iret d_X7_stand_77 rfl ?_
        exact ⟨rfl, _, _, rfl, hR.fr fr_thrown⟩
      · exact absurd (b2i_ne0.mp c9) hM0
    · subst e5
      refine g_aload_n d_X6_stand_95 rfl ?_
      refine h_getR d_X6_stand_96 fl_6_26 sp_L rfl ?_
      refine h_V0i d_X6_stand_99 cl_6_231 (m_busyBits hall_15 gM hM5) (sp_hall hall_15) (by decide) rfl (Nat.le_of_ble_eq_true rfl) (by decide) ?_
      refine h_iret d_X6_stand_102 rfl ?_
      refine ⟨_, rfl, ?_⟩
      rw [← mu_15]
      refine MtH.of [some (.ref 360), some (.int 5)] pl_X7 rfl rfl ?_
      refine g_aload_n d_X7_stand_0 rfl ?_
      refine g_iconst d_X7_stand_1 ik_0 ?_
      refine mm_putI d_X7_stand_2 fl_7_62 sp_M rfl ?_
      refine g_aload_n d_X7_stand_5 rfl ?_
      refine h_V0i d_X7_stand_6 cl_7_195 (m7_isNothing ((hs_j (by decide)).trans wM)) sp_M (by decide) rfl (Nat.le_of_ble_eq_true rfl) (by decide) ?_
      refine g_if_eq d_X7_stand_9 (fun c9 => ?_) (fun c9 => ?_)
      · refine g_iload_n d_X7_stand_15 rfl ?_
        refine g_iconst d_X7_stand_16 ik_0 ?_
        refine g_iconst d_X7_stand_17 ik_5 ?_
        refine h_S3i d_X7_stand_18 cl_7_70 m7_in (Nat.le_of_ble_eq_true rfl) (by decide) ?_
        refine g_if_ne d_X7_stand_21 (fun c21 => ?_) (fun c21 => absurd c21 (by decide))
        refine g_iload_n d_X7_stand_27 rfl ?_
        refine g_if_ne d_X7_stand_28 (fun c28 => ?_) (fun c28 => absurd c28 (by decide))
        refine g_iload_n d_X7_stand_40 rfl ?_
        refine g_iconst d_X7_stand_41 ik_4 ?_
        refine g_icmp_ge d_X7_stand_42 (fun c42 => ?_) (fun c42 => absurd c42 (by decide))
        refine g_iload_n d_X7_stand_59 rfl ?_
        refine g_iconst d_X7_stand_60 ik_4 ?_
        refine g_icmp_ne d_X7_stand_61 (fun c61 => ?_) (fun c61 => absurd c61 (by decide))
        refine g_aload_n d_X7_stand_73 rfl ?_
        refine h_V0i d_X7_stand_74 cl_7_208 (m7_withLoads (hS.2.1.th hM5 hN6) hI) sp_M (by decide) rfl (Nat.le_of_ble_eq_true rfl) (by decide) ?_
        refine h_iret d_X7_stand_77 rfl ?_
        exact ⟨rfl, _, _, rfl, hR.fr fr_thrown⟩
      · exact absurd (b2i_ne0.mp c9) hM0
    · refine g_ldc d_X6_stand_103 kc_X6_66 ?_
      refine h_iret d_X6_stand_105 rfl ?_
      refine ⟨_, rfl, ?_⟩
      rw [← mu_15]
      refine MtH.of [some (.ref 360), some (.int x)] pl_X7 rfl rfl ?_
      refine g_aload_n d_X7_stand_0 rfl ?_
      refine g_iconst d_X7_stand_1 ik_0 ?_
      refine mm_putI d_X7_stand_2 fl_7_62 sp_M rfl ?_
      refine g_aload_n d_X7_stand_5 rfl ?_
      refine h_V0i d_X7_stand_6 cl_7_195 (m7_isNothing ((hs_j (by decide)).trans wM)) sp_M (by decide) rfl (Nat.le_of_ble_eq_true rfl) (by decide) ?_
      refine g_if_eq d_X7_stand_9 (fun c9 => ?_) (fun c9 => ?_)
      · refine g_iload_n d_X7_stand_15 rfl ?_
        refine g_iconst d_X7_stand_16 ik_0 ?_
        refine g_iconst d_X7_stand_17 ik_5 ?_
        refine h_S3i d_X7_stand_18 cl_7_70 m7_in (Nat.le_of_ble_eq_true rfl) (by decide) ?_
        refine g_if_ne d_X7_stand_21 (fun c21 => ?_) (fun c21 => ?_)
        · exfalso
          have z0 : ¬ x.toInt = 0 := fun z => q0 (Int32.toInt_inj.mp (z.trans t_0.symm))
          have z1 : ¬ x.toInt = 1 := fun z => q1 (Int32.toInt_inj.mp (z.trans t_1.symm))
          have z2 : ¬ x.toInt = 2 := fun z => q2 (Int32.toInt_inj.mp (z.trans t_2.symm))
          have z3 : ¬ x.toInt = 3 := fun z => q3 (Int32.toInt_inj.mp (z.trans t_3.symm))
          have z4 : ¬ x.toInt = 4 := fun z => q4 (Int32.toInt_inj.mp (z.trans t_4.symm))
          have z5 : ¬ x.toInt = 5 := fun z => q5 (Int32.toInt_inj.mp (z.trans t_5.symm))
          clear q0 q1 q2 q3 q4 q5
          simp only [b2i_eq0, b2i_ne0, Int32.lt_iff_toInt_lt, Int32.le_iff_toInt_le, t_0, t_1, t_2, t_3, t_4, t_5, t_6, t_7, t_8, t_9, t_10, t_11, t_12, t_20, t_24, t_40, t_50, t_60, t_99, t_110, t_255, t_999, t_999999, t_m1] at *
          omega
        · refine g_ldc d_X7_stand_24 kc_X7_78 ?_
          refine h_iret d_X7_stand_26 rfl ?_
          exact ⟨rfl, _, _, rfl, hR.fr fr_thrown⟩
      · exact absurd (b2i_ne0.mp c9) hM0
  · refine g_ldc d_X6_stand_10 kc_X6_141 ?_
    refine h_iret d_X6_stand_12 rfl ?_
    refine ⟨_, rfl, ?_⟩
    rw [← mu_15]
    refine MtH.of [some (.ref 360), some (.int x)] pl_X7 rfl rfl ?_
    refine g_aload_n d_X7_stand_0 rfl ?_
    refine g_iconst d_X7_stand_1 ik_0 ?_
    refine mm_putI d_X7_stand_2 fl_7_62 sp_M rfl ?_
    refine g_aload_n d_X7_stand_5 rfl ?_
    refine h_V0i d_X7_stand_6 cl_7_195 (m7_isNothing ((hs_j (by decide)).trans wM)) sp_M (by decide) rfl (Nat.le_of_ble_eq_true rfl) (by decide) ?_
    refine g_if_eq d_X7_stand_9 (fun c9 => ?_) (fun c9 => ?_)
    · exact absurd (gM.symm.trans (b2i_ne0.mp c7)) (b2i_eq0.mp c9)
    · refine g_ldc d_X7_stand_12 kc_X7_194 ?_
      refine h_iret d_X7_stand_14 rfl ?_
      exact ⟨rfl, _, _, rfl, hR.fr fr_thrown⟩
theorem op_kind {h w : Hv} (hR : RelP h w) {x : Int32} : OPI M_X6_kind M_X7_kind 2 2 [.int x] (mu h w) := by
  obtain ⟨M, N, hM5, hN6, gM, wM, gN, wN, hZ⟩ := hR.mn
  have eM : (nI M).toInt = M := nI_toInt (by omega)
  have eN : (nI N).toInt = N := nI_toInt (by omega)
  have eM1 := nI_predI (t := M) (by omega)
  have eN1 := nI_predI (t := N) (by omega)
  rw [mu_15]
  refine MtH.of [some (.ref 0), some (.int x)] pl_X6 rfl rfl ?_
  refine g_aload_n d_X6_kind_0 rfl ?_
  refine h_getR d_X6_kind_1 fl_6_26 sp_L rfl ?_
  refine g_iload_n d_X6_kind_4 rfl ?_
  refine h_V1i d_X6_kind_5 cl_6_170 (m_hasMachine hall_15) (sp_hall hall_15) (by decide) rfl (Nat.le_of_ble_eq_true rfl) (by decide) ?_
  refine g_if_eq d_X6_kind_8 (fun c8 => ?_) (fun c8 => ?_)
  · refine g_ldc d_X6_kind_23 kc_X6_66 ?_
    refine h_iret d_X6_kind_25 rfl ?_
    refine ⟨_, rfl, ?_⟩
    rw [← mu_15]
    refine MtH.of [some (.ref 360), some (.int x)] pl_X7 rfl rfl ?_
    refine g_aload_n d_X7_kind_0 rfl ?_
    refine g_iconst d_X7_kind_1 ik_0 ?_
    refine mm_putI d_X7_kind_2 fl_7_62 sp_M rfl ?_
    refine g_aload_n d_X7_kind_5 rfl ?_
    refine g_iload_n d_X7_kind_6 rfl ?_
    refine h_V1i d_X7_kind_7 cl_7_201 (m7_isMachine ((hs_j (by decide)).trans wM)) sp_M (by decide) rfl (Nat.le_of_ble_eq_true rfl) (by decide) ?_
    refine g_if_eq d_X7_kind_10 (fun c10 => ?_) (fun c10 => ?_)
    · refine g_ldc d_X7_kind_24 kc_X7_78 ?_
      refine h_iret d_X7_kind_26 rfl ?_
      exact ⟨rfl, _, _, rfl, hR.fr fr_thrown⟩
    · exfalso
      simp only [b2i_eq0, b2i_ne0, Int32.lt_iff_toInt_lt, Int32.le_iff_toInt_le, t_0, t_1, t_2, t_3, t_4, t_5, t_6, t_7, t_8, t_9, t_10, t_11, t_12, t_20, t_24, t_40, t_50, t_60, t_99, t_110, t_255, t_999, t_999999, t_m1, gM, gN, eM, eN, eM1, eN1] at *
      omega
  · obtain ⟨r, hr, rfl⟩ := rngI (x := x) (B := M) (by simp only [b2i_eq0, b2i_ne0, Int32.lt_iff_toInt_lt, Int32.le_iff_toInt_le, t_0, t_1, t_2, t_3, t_4, t_5, t_6, t_7, t_8, t_9, t_10, t_11, t_12, t_20, t_24, t_40, t_50, t_60, t_99, t_110, t_255, t_999, t_999999, t_m1, gM, gN, eM, eN, eM1, eN1] at *; omega) (by simp only [b2i_eq0, b2i_ne0, Int32.lt_iff_toInt_lt, Int32.le_iff_toInt_le, t_0, t_1, t_2, t_3, t_4, t_5, t_6, t_7, t_8, t_9, t_10, t_11, t_12, t_20, t_24, t_40, t_50, t_60, t_99, t_110, t_255, t_999, t_999999, t_m1, gM, gN, eM, eN, eM1, eN1] at *; omega)
    have er : (nI r).toInt = r := nI_toInt (by omega)
    obtain ⟨i0, c0, hi0, hi1, hS, hA, hO⟩ := (hZ.resolve_left (fun z => by have := z.1; have := z.2.1; omega)).2.2
    have hI := hS.1
    refine g_aload_n d_X6_kind_11 rfl ?_
    refine h_getR d_X6_kind_12 fl_6_26 sp_L rfl ?_
    refine h_getR d_X6_kind_15 fl_6_335 (sp_hall hall_15) rfl ?_
    refine g_iload_n d_X6_kind_18 rfl ?_
    refine hh_aldE (k := r) d_X6_kind_19 (sp_h1 hall_15) (by decide) rfl (by omega) (by decide) ?_
    refine g_goto d_X6_kind_20 ?_
    refine h_iret d_X6_kind_25 rfl ?_
    refine ⟨_, rfl, ?_⟩
    rw [← mu_15]
    refine MtH.of [some (.ref 360), some (.int (nI r))] pl_X7 rfl rfl ?_
    refine g_aload_n d_X7_kind_0 rfl ?_
    refine g_iconst d_X7_kind_1 ik_0 ?_
    refine mm_putI d_X7_kind_2 fl_7_62 sp_M rfl ?_
    refine g_aload_n d_X7_kind_5 rfl ?_
    refine g_iload_n d_X7_kind_6 rfl ?_
    refine h_V1i d_X7_kind_7 cl_7_201 (m7_isMachine ((hs_j (by decide)).trans wM)) sp_M (by decide) rfl (Nat.le_of_ble_eq_true rfl) (by decide) ?_
    refine g_if_eq d_X7_kind_10 (fun c10 => ?_) (fun c10 => ?_)
    · exfalso
      simp only [b2i_eq0, b2i_ne0, Int32.lt_iff_toInt_lt, Int32.le_iff_toInt_le, t_0, t_1, t_2, t_3, t_4, t_5, t_6, t_7, t_8, t_9, t_10, t_11, t_12, t_20, t_24, t_40, t_50, t_60, t_99, t_110, t_255, t_999, t_999999, t_m1, er, gM, gN, eM, eN, eM1, eN1] at *
      omega
    · refine g_aload_n d_X7_kind_13 rfl ?_
      refine h_getR d_X7_kind_14 fl_7_28 sp_M rfl ?_
      refine g_iconst d_X7_kind_17 ik_2 ?_
      refine g_iload_n d_X7_kind_18 rfl ?_
      refine g_iadd d_X7_kind_19 ?_
      refine mm_aldV (k := (2 + r)) (v := hv h 15 1 r) d_X7_kind_20 (j := 7) sp_m_d rfl (by decide) (nAdd rfl rfl) (by omega) (by decide) ((hs_j (by decide)).trans (hS.2.1.2.1 r hr).1.symm) ?_
      refine g_goto d_X7_kind_21 ?_
      refine h_iret d_X7_kind_26 rfl ?_
      exact ⟨rfl, _, _, rfl, hR.fr fr_thrown⟩
