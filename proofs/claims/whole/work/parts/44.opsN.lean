/-! OPS: as, feed, ask -/
def okF (kind : Int32) : Nat → Int32 → Int32
  | 0, _ => 0
  | n + 1, k => if k < 0 then 0 else if k = kind then 1 else okF kind n (sT 0 k.toNatClampNeg)
theorem lp_isOfKind {h : Hv} {own kind r : Int32} : ∀ (n s : Nat), s + n = 6 → ∀ (k : Int32), kOk k → r = okF kind n k → GdH M_X6_isOfKind 0 4 [some (.int own), some (.int kind), some (.int k), some (.int (nI s))] [] h (fun v' h' => v' = some (.int r) ∧ h' = h) := by
  intro n
  induction n with
  | zero =>
    intro s hs k hk hr
    refine g_iload_n d_X6_isOfKind_4 rfl ?_
    refine g_gets d_X6_isOfKind_5 (j := 0) (by decide) fs_6_342 ?_
    refine g_tlen d_X6_isOfKind_8 (by decide) ?_
    refine g_icmp_ge d_X6_isOfKind_9 (fun c9 => ?_) (fun c9 => absurd (nI_le (a := 6) (b := s) (by omega) (by omega)) c9)
    refine g_iconst d_X6_isOfKind_35 ik_0 ?_
    refine h_zret d_X6_isOfKind_36 rfl rfl ?_
    exact pF (by rw [hr]; rfl) rfl
  | succ n ih =>
    intro s hs k hk hr
    rw [okF] at hr
    refine g_iload_n d_X6_isOfKind_4 rfl ?_
    refine g_gets d_X6_isOfKind_5 (j := 0) (by decide) fs_6_342 ?_
    refine g_tlen d_X6_isOfKind_8 (by decide) ?_
    refine g_icmp_ge d_X6_isOfKind_9 (fun c9 => absurd c9 (nI_ge (a := s) (b := 6) (by omega) (by omega))) (fun c9 => ?_)
    refine g_iload_n d_X6_isOfKind_12 rfl ?_
    refine g_if_lt d_X6_isOfKind_13 (fun c13 => ?_) (fun c13 => ?_)
    · refine g_iconst d_X6_isOfKind_35 ik_0 ?_
      refine h_zret d_X6_isOfKind_36 rfl rfl ?_
      exact pF (by rw [hr, if_pos c13]) rfl
    · refine g_iload_n d_X6_isOfKind_16 rfl ?_
      refine g_iload_n d_X6_isOfKind_17 rfl ?_
      refine g_icmp_ne d_X6_isOfKind_18 (fun c18 => ?_) (fun c18 => ?_)
      · rw [if_neg c13, if_neg c18] at hr
        obtain ⟨q, hq, eq⟩ := hk.resolve_left c13
        subst eq
        rw [nI_clamp (by omega)] at hr
        refine g_gets d_X6_isOfKind_23 (j := 0) (by decide) fs_6_342 ?_
        refine g_iload_n d_X6_isOfKind_26 rfl ?_
        refine g_taldE (k := q) d_X6_isOfKind_27 (by decide) rfl (by omega) ?_
        refine w_istore_n (L' := [_, _, _, _]) d_X6_isOfKind_28 rfl rfl rfl ?_
        refine w_iinc (L' := [_, _, _, _]) d_X6_isOfKind_29 ik_1 rfl rfl rfl rfl ?_
        refine g_goto d_X6_isOfKind_32 ?_
        rw [nI_1]
        exact ih (s + 1) (by omega) _ (kOk_near q hq) hr
      · refine g_iconst d_X6_isOfKind_21 ik_1 ?_
        refine h_zret d_X6_isOfKind_22 rfl rfl ?_
        exact pF (by rw [hr, if_neg c13, if_pos c18]) rfl
theorem asKey : ∀ q, q < 6 → ∀ k, k < 6 → okF (nI k) 6 (nI q) = if 1 ≤ q then (if (nI k = 0 ∨ nI k = nI q ∨ (nI k = 1 ∧ ¬ 4 ≤ nI q) ∨ (nI k = 4 ∧ ¬ ¬ 4 ≤ nI q)) then 1 else 0) else okF (nI k) 6 (nI q) := by decide +kernel
theorem m6_isOfKind {h : Hv} {own kind : Int32} (hk : kOk own) : MtF M_X6_isOfKind 0 [.int own, .int kind] (h) (some (.int (okF kind 6 own))) (h) := by
  refine MtF.of [some (.int own), some (.int kind), none, none] pl_X6 rfl rfl ?_
  refine g_iload_n d_X6_isOfKind_0 rfl ?_
  refine w_istore_n (L' := [_, _, _, _]) d_X6_isOfKind_1 rfl rfl rfl ?_
  refine g_iconst d_X6_isOfKind_2 ik_0 ?_
  refine w_istore_n (L' := [_, _, _, _]) d_X6_isOfKind_3 rfl rfl rfl ?_
  exact lp_isOfKind 6 0 (by omega) own hk rfl
theorem op_as {h w : Hv} (hR : RelP h w) {x y : Int32} : OPI M_X6_as M_X7_as 2 2 [.int x, .int y] (mu h w) := by
  obtain ⟨M, N, hM5, hN6, gM, wM, gN, wN, hZ⟩ := hR.mn
  have eM : (nI M).toInt = M := nI_toInt (by omega)
  have eN : (nI N).toInt = N := nI_toInt (by omega)
  have eM1 := nI_predI (t := M) (by omega)
  have eN1 := nI_predI (t := N) (by omega)
  rw [mu_15]
  refine MtH.of [some (.ref 0), some (.int x), some (.int y)] pl_X6 rfl rfl ?_
  refine g_aload_n d_X6_as_0 rfl ?_
  refine h_getR d_X6_as_1 fl_6_26 sp_L rfl ?_
  refine g_iload_n d_X6_as_4 rfl ?_
  refine h_V1i d_X6_as_5 cl_6_170 (m_hasMachine hall_15) (sp_hall hall_15) (by decide) rfl (Nat.le_of_ble_eq_true rfl) (by decide) ?_
  refine g_if_eq d_X6_as_8 (fun c8 => ?_) (fun c8 => ?_)
  · refine g_ldc d_X6_as_20 kc_X6_66 ?_
    refine h_iret d_X6_as_22 rfl ?_
    refine ⟨_, rfl, ?_⟩
    rw [← mu_15]
    refine MtH.of [some (.ref 360), some (.int x), some (.int y), none, none] pl_X7 rfl rfl ?_
    refine g_aload_n d_X7_as_0 rfl ?_
    refine g_iconst d_X7_as_1 ik_0 ?_
    refine mm_putI d_X7_as_2 fl_7_62 sp_M rfl ?_
    refine g_aload_n d_X7_as_5 rfl ?_
    refine g_iload_n d_X7_as_6 rfl ?_
    refine h_V1i d_X7_as_7 cl_7_201 (m7_isMachine ((hs_j (by decide)).trans wM)) sp_M (by decide) rfl (Nat.le_of_ble_eq_true rfl) (by decide) ?_
    refine g_if_eq d_X7_as_10 (fun c10 => ?_) (fun c10 => ?_)
    · refine g_ldc d_X7_as_22 kc_X7_78 ?_
      refine h_iret d_X7_as_24 rfl ?_
      exact ⟨rfl, _, _, rfl, hR.fr fr_thrown⟩
    · refine g_iload_n d_X7_as_13 rfl ?_
      refine g_iconst d_X7_as_14 ik_0 ?_
      refine g_iconst d_X7_as_15 ik_5 ?_
      refine h_S3i d_X7_as_16 cl_7_70 m7_in (Nat.le_of_ble_eq_true rfl) (by decide) ?_
      refine g_if_ne d_X7_as_19 (fun c19 => ?_) (fun c19 => ?_)
      · exfalso
        simp only [b2i_eq0, b2i_ne0, Int32.lt_iff_toInt_lt, Int32.le_iff_toInt_le, t_0, t_1, t_2, t_3, t_4, t_5, t_6, t_7, t_8, t_9, t_10, t_11, t_12, t_20, t_24, t_40, t_50, t_60, t_99, t_110, t_255, t_999, t_999999, t_m1, gM, gN, eM, eN, eM1, eN1] at *
        omega
      · refine g_ldc d_X7_as_22 kc_X7_78 ?_
        refine h_iret d_X7_as_24 rfl ?_
        exact ⟨rfl, _, _, rfl, hR.fr fr_thrown⟩
  · refine g_iload_n d_X6_as_11 rfl ?_
    refine g_if_lt d_X6_as_12 (fun c12 => ?_) (fun c12 => ?_)
    · refine g_ldc d_X6_as_20 kc_X6_66 ?_
      refine h_iret d_X6_as_22 rfl ?_
      refine ⟨_, rfl, ?_⟩
      rw [← mu_15]
      refine MtH.of [some (.ref 360), some (.int x), some (.int y), none, none] pl_X7 rfl rfl ?_
      refine g_aload_n d_X7_as_0 rfl ?_
      refine g_iconst d_X7_as_1 ik_0 ?_
      refine mm_putI d_X7_as_2 fl_7_62 sp_M rfl ?_
      refine g_aload_n d_X7_as_5 rfl ?_
      refine g_iload_n d_X7_as_6 rfl ?_
      refine h_V1i d_X7_as_7 cl_7_201 (m7_isMachine ((hs_j (by decide)).trans wM)) sp_M (by decide) rfl (Nat.le_of_ble_eq_true rfl) (by decide) ?_
      refine g_if_eq d_X7_as_10 (fun c10 => ?_) (fun c10 => ?_)
      · refine g_ldc d_X7_as_22 kc_X7_78 ?_
        refine h_iret d_X7_as_24 rfl ?_
        exact ⟨rfl, _, _, rfl, hR.fr fr_thrown⟩
      · refine g_iload_n d_X7_as_13 rfl ?_
        refine g_iconst d_X7_as_14 ik_0 ?_
        refine g_iconst d_X7_as_15 ik_5 ?_
        refine h_S3i d_X7_as_16 cl_7_70 m7_in (Nat.le_of_ble_eq_true rfl) (by decide) ?_
        refine g_if_ne d_X7_as_19 (fun c19 => ?_) (fun c19 => ?_)
        · exfalso
          simp only [b2i_eq0, b2i_ne0, Int32.lt_iff_toInt_lt, Int32.le_iff_toInt_le, t_0, t_1, t_2, t_3, t_4, t_5, t_6, t_7, t_8, t_9, t_10, t_11, t_12, t_20, t_24, t_40, t_50, t_60, t_99, t_110, t_255, t_999, t_999999, t_m1, gM, gN, eM, eN, eM1, eN1] at *
          omega
        · refine g_ldc d_X7_as_22 kc_X7_78 ?_
          refine h_iret d_X7_as_24 rfl ?_
          exact ⟨rfl, _, _, rfl, hR.fr fr_thrown⟩
    · refine g_iload_n d_X6_as_15 rfl ?_
      refine g_iconst d_X6_as_16 ik_5 ?_
      refine g_icmp_le d_X6_as_17 (fun c17 => ?_) (fun c17 => ?_)
      · obtain ⟨r, hr, rfl⟩ := rngI (x := x) (B := M) (by simp only [b2i_eq0, b2i_ne0, Int32.lt_iff_toInt_lt, Int32.le_iff_toInt_le, t_0, t_1, t_2, t_3, t_4, t_5, t_6, t_7, t_8, t_9, t_10, t_11, t_12, t_20, t_24, t_40, t_50, t_60, t_99, t_110, t_255, t_999, t_999999, t_m1, gM, gN, eM, eN, eM1, eN1] at *; omega) (by simp only [b2i_eq0, b2i_ne0, Int32.lt_iff_toInt_lt, Int32.le_iff_toInt_le, t_0, t_1, t_2, t_3, t_4, t_5, t_6, t_7, t_8, t_9, t_10, t_11, t_12, t_20, t_24, t_40, t_50, t_60, t_99, t_110, t_255, t_999, t_999999, t_m1, gM, gN, eM, eN, eM1, eN1] at *; omega)
        have er : (nI r).toInt = r := nI_toInt (by omega)
        obtain ⟨i0, c0, hi0, hi1, hS, hA, hO⟩ := (hZ.resolve_left (fun z => by have := z.1; have := z.2.1; omega)).2.2
        have hI := hS.1
        obtain ⟨k, hk, rfl⟩ := rngI (x := y) (B := 6) (by simp only [b2i_eq0, b2i_ne0, Int32.lt_iff_toInt_lt, Int32.le_iff_toInt_le, t_0, t_1, t_2, t_3, t_4, t_5, t_6, t_7, t_8, t_9, t_10, t_11, t_12, t_20, t_24, t_40, t_50, t_60, t_99, t_110, t_255, t_999, t_999999, t_m1, er, gM, gN, eM, eN, eM1, eN1] at *; omega) (by simp only [b2i_eq0, b2i_ne0, Int32.lt_iff_toInt_lt, Int32.le_iff_toInt_le, t_0, t_1, t_2, t_3, t_4, t_5, t_6, t_7, t_8, t_9, t_10, t_11, t_12, t_20, t_24, t_40, t_50, t_60, t_99, t_110, t_255, t_999, t_999999, t_m1, er, gM, gN, eM, eN, eM1, eN1] at *; omega)
        have ek : (nI k).toInt = k := nI_toInt (by omega)
        obtain ⟨q, b, c, d, hq1, hq5, eq, -⟩ := hI.mach r hr
        have hky := asKey q (by omega) k hk
        rw [if_pos hq1] at hky
        refine g_aload_n d_X6_as_23 rfl ?_
        refine h_getR d_X6_as_24 fl_6_26 sp_L rfl ?_
        refine h_getR d_X6_as_27 fl_6_335 (sp_hall hall_15) rfl ?_
        refine g_iload_n d_X6_as_30 rfl ?_
        refine hh_aldV (k := r) (v := nI q) d_X6_as_31 (sp_h1 hall_15) (by decide) rfl (by omega) (by decide) (eq) ?_
        refine g_iload_n d_X6_as_32 rfl ?_
        refine h_S2i d_X6_as_33 cl_6_338 (m6_isOfKind (Or.inr ⟨q, by omega, rfl⟩)) (Nat.le_of_ble_eq_true rfl) (by decide) ?_
        refine g_if_eq d_X6_as_36 (fun c36 => ?_) (fun c36 => ?_)
        · have hY : ¬ (nI k = 0 ∨ nI k = nI q ∨ (nI k = 1 ∧ ¬ 4 ≤ nI q) ∨ (nI k = 4 ∧ ¬ ¬ 4 ≤ nI q)) := fun z => absurd (c36.symm.trans (by rw [hky, if_pos z])) (by decide)
          rw [← mu_15]
          refine g_aload_n d_X6_as_47 rfl ?_
          refine g_iconst d_X6_as_48 ik_3 ?_
          refine h_V1i d_X6_as_49 cl_6_67 m6_found sp_L (by decide) rfl (Nat.le_of_ble_eq_true rfl) (by decide) ?_
          refine h_iret d_X6_as_52 rfl ?_
          refine ⟨_, rfl, ?_⟩
          rw [mu_hset (by decide)]
          refine MtH.of [some (.ref 360), some (.int (nI r)), some (.int (nI k)), none, none] pl_X7 rfl rfl ?_
          refine g_aload_n d_X7_as_0 rfl ?_
          refine g_iconst d_X7_as_1 ik_0 ?_
          refine mm_putI d_X7_as_2 fl_7_62 sp_M rfl ?_
          refine g_aload_n d_X7_as_5 rfl ?_
          refine g_iload_n d_X7_as_6 rfl ?_
          refine h_V1i d_X7_as_7 cl_7_201 (m7_isMachine ((hs_j (by decide)).trans wM)) sp_M (by decide) rfl (Nat.le_of_ble_eq_true rfl) (by decide) ?_
          refine g_if_eq d_X7_as_10 (fun c10 => ?_) (fun c10 => ?_)
          · exfalso
            simp only [b2i_eq0, b2i_ne0, Int32.lt_iff_toInt_lt, Int32.le_iff_toInt_le, t_0, t_1, t_2, t_3, t_4, t_5, t_6, t_7, t_8, t_9, t_10, t_11, t_12, t_20, t_24, t_40, t_50, t_60, t_99, t_110, t_255, t_999, t_999999, t_m1, er, ek, gM, gN, eM, eN, eM1, eN1] at *
            omega
          · refine g_iload_n d_X7_as_13 rfl ?_
            refine g_iconst d_X7_as_14 ik_0 ?_
            refine g_iconst d_X7_as_15 ik_5 ?_
            refine h_S3i d_X7_as_16 cl_7_70 m7_in (Nat.le_of_ble_eq_true rfl) (by decide) ?_
            refine g_if_ne d_X7_as_19 (fun c19 => ?_) (fun c19 => ?_)
            · refine g_aload_n d_X7_as_25 rfl ?_
              refine h_getR d_X7_as_26 fl_7_28 sp_M rfl ?_
              refine g_iconst d_X7_as_29 ik_2 ?_
              refine g_iload_n d_X7_as_30 rfl ?_
              refine g_iadd d_X7_as_31 ?_
              refine mm_aldV (k := (2 + r)) (v := nI q) d_X7_as_32 (j := 7) sp_m_d rfl (by decide) (nAdd rfl rfl) (by omega) (by decide) ((hs_j (by decide)).trans ((hS.2.1.2.1 r hr).1.symm.trans eq)) ?_
              refine w_istore_n (L' := [_, _, _, _, _]) d_X7_as_33 rfl rfl rfl ?_
              refine g_iload_n d_X7_as_34 rfl ?_
              refine g_if_eq d_X7_as_35 (fun c35 => ?_) (fun c35 => ?_)
              · exact absurd (by first | exact Or.inl c35 | exact Or.inr (Or.inl c40) | exact Or.inr (Or.inr (Or.inl ⟨c45, b2i_ne0.mp c52⟩)) | exact Or.inr (Or.inr (Or.inr ⟨c57, b2i_eq0.mp c64⟩))) hY
              · refine g_iload_n d_X7_as_38 rfl ?_
                refine g_iload_n d_X7_as_39 rfl ?_
                refine g_icmp_eq d_X7_as_40 (fun c40 => ?_) (fun c40 => ?_)
                · exact absurd (by first | exact Or.inl c35 | exact Or.inr (Or.inl c40) | exact Or.inr (Or.inr (Or.inl ⟨c45, b2i_ne0.mp c52⟩)) | exact Or.inr (Or.inr (Or.inr ⟨c57, b2i_eq0.mp c64⟩))) hY
                · refine g_iload_n d_X7_as_43 rfl ?_
                  refine g_iconst d_X7_as_44 ik_1 ?_
                  refine g_icmp_ne d_X7_as_45 (fun c45 => ?_) (fun c45 => ?_)
                  · refine g_iload_n d_X7_as_55 rfl ?_
                    refine g_iconst d_X7_as_56 ik_4 ?_
                    refine g_icmp_ne d_X7_as_57 (fun c57 => ?_) (fun c57 => ?_)
                    · refine g_iconst d_X7_as_71 ik_0 ?_
                      refine w_istore (L' := [_, _, _, _, _]) d_X7_as_72 rfl rfl rfl ?_
                      refine g_iload d_X7_as_74 rfl ?_
                      refine g_if_eq d_X7_as_76 (fun c76 => ?_) (fun c76 => absurd c76 (by decide))
                      refine g_aload_n d_X7_as_87 rfl ?_
                      refine g_iconst d_X7_as_88 ik_3 ?_
                      refine h_V1i d_X7_as_89 cl_7_79 m7_found sp_M (by decide) rfl (Nat.le_of_ble_eq_true rfl) (by decide) ?_
                      refine h_iret d_X7_as_92 rfl ?_
                      exact ⟨rfl, _, _, rfl, hR.stat _⟩
                    · refine g_iload_n d_X7_as_60 rfl ?_
                      refine h_S1i d_X7_as_61 cl_7_152 m7_washes (Nat.le_of_ble_eq_true rfl) (by decide) ?_
                      refine g_if_ne d_X7_as_64 (fun c64 => ?_) (fun c64 => ?_)
                      · refine g_iconst d_X7_as_71 ik_0 ?_
                        refine w_istore (L' := [_, _, _, _, _]) d_X7_as_72 rfl rfl rfl ?_
                        refine g_iload d_X7_as_74 rfl ?_
                        refine g_if_eq d_X7_as_76 (fun c76 => ?_) (fun c76 => absurd c76 (by decide))
                        refine g_aload_n d_X7_as_87 rfl ?_
                        refine g_iconst d_X7_as_88 ik_3 ?_
                        refine h_V1i d_X7_as_89 cl_7_79 m7_found sp_M (by decide) rfl (Nat.le_of_ble_eq_true rfl) (by decide) ?_
                        refine h_iret d_X7_as_92 rfl ?_
                        exact ⟨rfl, _, _, rfl, hR.stat _⟩
                      · exact absurd (by first | exact Or.inl c35 | exact Or.inr (Or.inl c40) | exact Or.inr (Or.inr (Or.inl ⟨c45, b2i_ne0.mp c52⟩)) | exact Or.inr (Or.inr (Or.inr ⟨c57, b2i_eq0.mp c64⟩))) hY
                  · refine g_iload_n d_X7_as_48 rfl ?_
                    refine h_S1i d_X7_as_49 cl_7_152 m7_washes (Nat.le_of_ble_eq_true rfl) (by decide) ?_
                    refine g_if_ne d_X7_as_52 (fun c52 => ?_) (fun c52 => ?_)
                    · exact absurd (by first | exact Or.inl c35 | exact Or.inr (Or.inl c40) | exact Or.inr (Or.inr (Or.inl ⟨c45, b2i_ne0.mp c52⟩)) | exact Or.inr (Or.inr (Or.inr ⟨c57, b2i_eq0.mp c64⟩))) hY
                    · refine g_iload_n d_X7_as_55 rfl ?_
                      refine g_iconst d_X7_as_56 ik_4 ?_
                      refine g_icmp_ne d_X7_as_57 (fun c57 => ?_) (fun c57 => ?_)
                      · refine g_iconst d_X7_as_71 ik_0 ?_
                        refine w_istore (L' := [_, _, _, _, _]) d_X7_as_72 rfl rfl rfl ?_
                        refine g_iload d_X7_as_74 rfl ?_
                        refine g_if_eq d_X7_as_76 (fun c76 => ?_) (fun c76 => absurd c76 (by decide))
                        refine g_aload_n d_X7_as_87 rfl ?_
                        refine g_iconst d_X7_as_88 ik_3 ?_
                        refine h_V1i d_X7_as_89 cl_7_79 m7_found sp_M (by decide) rfl (Nat.le_of_ble_eq_true rfl) (by decide) ?_
                        refine h_iret d_X7_as_92 rfl ?_
                        exact ⟨rfl, _, _, rfl, hR.stat _⟩
                      · refine g_iload_n d_X7_as_60 rfl ?_
                        refine h_S1i d_X7_as_61 cl_7_152 m7_washes (Nat.le_of_ble_eq_true rfl) (by decide) ?_
                        refine g_if_ne d_X7_as_64 (fun c64 => ?_) (fun c64 => ?_)
                        · refine g_iconst d_X7_as_71 ik_0 ?_
                          refine w_istore (L' := [_, _, _, _, _]) d_X7_as_72 rfl rfl rfl ?_
                          refine g_iload d_X7_as_74 rfl ?_
                          refine g_if_eq d_X7_as_76 (fun c76 => ?_) (fun c76 => absurd c76 (by decide))
                          refine g_aload_n d_X7_as_87 rfl ?_
                          refine g_iconst d_X7_as_88 ik_3 ?_
                          refine h_V1i d_X7_as_89 cl_7_79 m7_found sp_M (by decide) rfl (Nat.le_of_ble_eq_true rfl) (by decide) ?_
                          refine h_iret d_X7_as_92 rfl ?_
                          exact ⟨rfl, _, _, rfl, hR.stat _⟩
                        · exact absurd (by first | exact Or.inl c35 | exact Or.inr (Or.inl c40) | exact Or.inr (Or.inr (Or.inl ⟨c45, b2i_ne0.mp c52⟩)) | exact Or.inr (Or.inr (Or.inr ⟨c57, b2i_eq0.mp c64⟩))) hY
            · exfalso
              simp only [b2i_eq0, b2i_ne0, Int32.lt_iff_toInt_lt, Int32.le_iff_toInt_le, t_0, t_1, t_2, t_3, t_4, t_5, t_6, t_7, t_8, t_9, t_10, t_11, t_12, t_20, t_24, t_40, t_50, t_60, t_99, t_110, t_255, t_999, t_999999, t_m1, er, ek, gM, gN, eM, eN, eM1, eN1] at *
              omega
        · have hY : (nI k = 0 ∨ nI k = nI q ∨ (nI k = 1 ∧ ¬ 4 ≤ nI q) ∨ (nI k = 4 ∧ ¬ ¬ 4 ≤ nI q)) := Decidable.byContradiction (fun z => c36 (by rw [hky, if_neg z]))
          rw [← mu_15]
          refine g_aload_n d_X6_as_39 rfl ?_
          refine g_iload_n d_X6_as_40 rfl ?_
          refine h_V1i d_X6_as_41 cl_6_75 m6_foundNothing sp_L (by decide) rfl (Nat.le_of_ble_eq_true rfl) (by decide) ?_
          refine g_goto d_X6_as_44 ?_
          refine h_iret d_X6_as_52 rfl ?_
          refine ⟨_, rfl, ?_⟩
          rw [mu_hset (by decide)]
          refine MtH.of [some (.ref 360), some (.int (nI r)), some (.int (nI k)), none, none] pl_X7 rfl rfl ?_
          refine g_aload_n d_X7_as_0 rfl ?_
          refine g_iconst d_X7_as_1 ik_0 ?_
          refine mm_putI d_X7_as_2 fl_7_62 sp_M rfl ?_
          refine g_aload_n d_X7_as_5 rfl ?_
          refine g_iload_n d_X7_as_6 rfl ?_
          refine h_V1i d_X7_as_7 cl_7_201 (m7_isMachine ((hs_j (by decide)).trans wM)) sp_M (by decide) rfl (Nat.le_of_ble_eq_true rfl) (by decide) ?_
          refine g_if_eq d_X7_as_10 (fun c10 => ?_) (fun c10 => ?_)
          · exfalso
            simp only [b2i_eq0, b2i_ne0, Int32.lt_iff_toInt_lt, Int32.le_iff_toInt_le, t_0, t_1, t_2, t_3, t_4, t_5, t_6, t_7, t_8, t_9, t_10, t_11, t_12, t_20, t_24, t_40, t_50, t_60, t_99, t_110, t_255, t_999, t_999999, t_m1, er, ek, gM, gN, eM, eN, eM1, eN1] at *
            omega
          · refine g_iload_n d_X7_as_13 rfl ?_
            refine g_iconst d_X7_as_14 ik_0 ?_
            refine g_iconst d_X7_as_15 ik_5 ?_
            refine h_S3i d_X7_as_16 cl_7_70 m7_in (Nat.le_of_ble_eq_true rfl) (by decide) ?_
            refine g_if_ne d_X7_as_19 (fun c19 => ?_) (fun c19 => ?_)
            · refine g_aload_n d_X7_as_25 rfl ?_
              refine h_getR d_X7_as_26 fl_7_28 sp_M rfl ?_
              refine g_iconst d_X7_as_29 ik_2 ?_
              refine g_iload_n d_X7_as_30 rfl ?_
              refine g_iadd d_X7_as_31 ?_
              refine mm_aldV (k := (2 + r)) (v := nI q) d_X7_as_32 (j := 7) sp_m_d rfl (by decide) (nAdd rfl rfl) (by omega) (by decide) ((hs_j (by decide)).trans ((hS.2.1.2.1 r hr).1.symm.trans eq)) ?_
              refine w_istore_n (L' := [_, _, _, _, _]) d_X7_as_33 rfl rfl rfl ?_
              refine g_iload_n d_X7_as_34 rfl ?_
              refine g_if_eq d_X7_as_35 (fun c35 => ?_) (fun c35 => ?_)
              · refine g_iconst d_X7_as_67 ik_1 ?_
                refine g_goto d_X7_as_68 ?_
                refine w_istore (L' := [_, _, _, _, _]) d_X7_as_72 rfl rfl rfl ?_
                refine g_iload d_X7_as_74 rfl ?_
                refine g_if_eq d_X7_as_76 (fun c76 => absurd c76 (by decide)) (fun c76 => ?_)
                refine g_aload_n d_X7_as_79 rfl ?_
                refine g_iload_n d_X7_as_80 rfl ?_
                refine h_V1i d_X7_as_81 cl_7_83 m7_well sp_M (by decide) rfl (Nat.le_of_ble_eq_true rfl) (by decide) ?_
                refine g_goto d_X7_as_84 ?_
                refine h_iret d_X7_as_92 rfl ?_
                exact ⟨rfl, _, _, rfl, hR.stat _⟩
              · refine g_iload_n d_X7_as_38 rfl ?_
                refine g_iload_n d_X7_as_39 rfl ?_
                refine g_icmp_eq d_X7_as_40 (fun c40 => ?_) (fun c40 => ?_)
                · refine g_iconst d_X7_as_67 ik_1 ?_
                  refine g_goto d_X7_as_68 ?_
                  refine w_istore (L' := [_, _, _, _, _]) d_X7_as_72 rfl rfl rfl ?_
                  refine g_iload d_X7_as_74 rfl ?_
                  refine g_if_eq d_X7_as_76 (fun c76 => absurd c76 (by decide)) (fun c76 => ?_)
                  refine g_aload_n d_X7_as_79 rfl ?_
                  refine g_iload_n d_X7_as_80 rfl ?_
                  refine h_V1i d_X7_as_81 cl_7_83 m7_well sp_M (by decide) rfl (Nat.le_of_ble_eq_true rfl) (by decide) ?_
                  refine g_goto d_X7_as_84 ?_
                  refine h_iret d_X7_as_92 rfl ?_
                  exact ⟨rfl, _, _, rfl, hR.stat _⟩
                · refine g_iload_n d_X7_as_43 rfl ?_
                  refine g_iconst d_X7_as_44 ik_1 ?_
                  refine g_icmp_ne d_X7_as_45 (fun c45 => ?_) (fun c45 => ?_)
                  · refine g_iload_n d_X7_as_55 rfl ?_
                    refine g_iconst d_X7_as_56 ik_4 ?_
                    refine g_icmp_ne d_X7_as_57 (fun c57 => ?_) (fun c57 => ?_)
                    · exfalso
                      rcases hY with z | z | ⟨z1, z2⟩ | ⟨z1, z2⟩
                      all_goals first | exact c35 z | exact c40 z | exact c45 z1 | exact (b2i_eq0.mp c52) z2 | exact c57 z1 | exact z2 (b2i_ne0.mp c64)
                    · refine g_iload_n d_X7_as_60 rfl ?_
                      refine h_S1i d_X7_as_61 cl_7_152 m7_washes (Nat.le_of_ble_eq_true rfl) (by decide) ?_
                      refine g_if_ne d_X7_as_64 (fun c64 => ?_) (fun c64 => ?_)
                      · exfalso
                        rcases hY with z | z | ⟨z1, z2⟩ | ⟨z1, z2⟩
                        all_goals first | exact c35 z | exact c40 z | exact c45 z1 | exact (b2i_eq0.mp c52) z2 | exact c57 z1 | exact z2 (b2i_ne0.mp c64)
                      · refine g_iconst d_X7_as_67 ik_1 ?_
                        refine g_goto d_X7_as_68 ?_
                        refine w_istore (L' := [_, _, _, _, _]) d_X7_as_72 rfl rfl rfl ?_
                        refine g_iload d_X7_as_74 rfl ?_
                        refine g_if_eq d_X7_as_76 (fun c76 => absurd c76 (by decide)) (fun c76 => ?_)
                        refine g_aload_n d_X7_as_79 rfl ?_
                        refine g_iload_n d_X7_as_80 rfl ?_
                        refine h_V1i d_X7_as_81 cl_7_83 m7_well sp_M (by decide) rfl (Nat.le_of_ble_eq_true rfl) (by decide) ?_
                        refine g_goto d_X7_as_84 ?_
                        refine h_iret d_X7_as_92 rfl ?_
                        exact ⟨rfl, _, _, rfl, hR.stat _⟩
                  · refine g_iload_n d_X7_as_48 rfl ?_
                    refine h_S1i d_X7_as_49 cl_7_152 m7_washes (Nat.le_of_ble_eq_true rfl) (by decide) ?_
                    refine g_if_ne d_X7_as_52 (fun c52 => ?_) (fun c52 => ?_)
                    · refine g_iconst d_X7_as_67 ik_1 ?_
                      refine g_goto d_X7_as_68 ?_
                      refine w_istore (L' := [_, _, _, _, _]) d_X7_as_72 rfl rfl rfl ?_
                      refine g_iload d_X7_as_74 rfl ?_
                      refine g_if_eq d_X7_as_76 (fun c76 => absurd c76 (by decide)) (fun c76 => ?_)
                      refine g_aload_n d_X7_as_79 rfl ?_
                      refine g_iload_n d_X7_as_80 rfl ?_
                      refine h_V1i d_X7_as_81 cl_7_83 m7_well sp_M (by decide) rfl (Nat.le_of_ble_eq_true rfl) (by decide) ?_
                      refine g_goto d_X7_as_84 ?_
                      refine h_iret d_X7_as_92 rfl ?_
                      exact ⟨rfl, _, _, rfl, hR.stat _⟩
                    · refine g_iload_n d_X7_as_55 rfl ?_
                      refine g_iconst d_X7_as_56 ik_4 ?_
                      refine g_icmp_ne d_X7_as_57 (fun c57 => ?_) (fun c57 => ?_)
                      · exfalso
                        rcases hY with z | z | ⟨z1, z2⟩ | ⟨z1, z2⟩
                        all_goals first | exact c35 z | exact c40 z | exact c45 z1 | exact (b2i_eq0.mp c52) z2 | exact c57 z1 | exact z2 (b2i_ne0.mp c64)
                      · refine g_iload_n d_X7_as_60 rfl ?_
                        refine h_S1i d_X7_as_61 cl_7_152 m7_washes (Nat.le_of_ble_eq_true rfl) (by decide) ?_
                        refine g_if_ne d_X7_as_64 (fun c64 => ?_) (fun c64 => ?_)
                        · exfalso
                          rcases hY with z | z | ⟨z1, z2⟩ | ⟨z1, z2⟩
                          all_goals first | exact c35 z | exact c40 z | exact c45 z1 | exact (b2i_eq0.mp c52) z2 | exact c57 z1 | exact z2 (b2i_ne0.mp c64)
                        · refine g_iconst d_X7_as_67 ik_1 ?_
                          refine g_goto d_X7_as_68 ?_
                          refine w_istore (L' := [_, _, _, _, _]) d_X7_as_72 rfl rfl rfl ?_
                          refine g_iload d_X7_as_74 rfl ?_
                          refine g_if_eq d_X7_as_76 (fun c76 => absurd c76 (by decide)) (fun c76 => ?_)
                          refine g_aload_n d_X7_as_79 rfl ?_
                          refine g_iload_n d_X7_as_80 rfl ?_
                          refine h_V1i d_X7_as_81 cl_7_83 m7_well sp_M (by decide) rfl (Nat.le_of_ble_eq_true rfl) (by decide) ?_
                          refine g_goto d_X7_as_84 ?_
                          refine h_iret d_X7_as_92 rfl ?_
                          exact ⟨rfl, _, _, rfl, hR.stat _⟩
            · exfalso
              simp only [b2i_eq0, b2i_ne0, Int32.lt_iff_toInt_lt, Int32.le_iff_toInt_le, t_0, t_1, t_2, t_3, t_4, t_5, t_6, t_7, t_8, t_9, t_10, t_11, t_12, t_20, t_24, t_40, t_50, t_60, t_99, t_110, t_255, t_999, t_999999, t_m1, er, ek, gM, gN, eM, eN, eM1, eN1] at *
              omega
      · refine g_ldc d_X6_as_20 kc_X6_66 ?_
        refine h_iret d_X6_as_22 rfl ?_
        refine ⟨_, rfl, ?_⟩
        rw [← mu_15]
        refine MtH.of [some (.ref 360), some (.int x), some (.int y), none, none] pl_X7 rfl rfl ?_
        refine g_aload_n d_X7_as_0 rfl ?_
        refine g_iconst d_X7_as_1 ik_0 ?_
        refine mm_putI d_X7_as_2 fl_7_62 sp_M rfl ?_
        refine g_aload_n d_X7_as_5 rfl ?_
        refine g_iload_n d_X7_as_6 rfl ?_
        refine h_V1i d_X7_as_7 cl_7_201 (m7_isMachine ((hs_j (by decide)).trans wM)) sp_M (by decide) rfl (Nat.le_of_ble_eq_true rfl) (by decide) ?_
        refine g_if_eq d_X7_as_10 (fun c10 => ?_) (fun c10 => ?_)
        · refine g_ldc d_X7_as_22 kc_X7_78 ?_
          refine h_iret d_X7_as_24 rfl ?_
          exact ⟨rfl, _, _, rfl, hR.fr fr_thrown⟩
        · refine g_iload_n d_X7_as_13 rfl ?_
          refine g_iconst d_X7_as_14 ik_0 ?_
          refine g_iconst d_X7_as_15 ik_5 ?_
          refine h_S3i d_X7_as_16 cl_7_70 m7_in (Nat.le_of_ble_eq_true rfl) (by decide) ?_
          refine g_if_ne d_X7_as_19 (fun c19 => ?_) (fun c19 => ?_)
          · exfalso
            simp only [b2i_eq0, b2i_ne0, Int32.lt_iff_toInt_lt, Int32.le_iff_toInt_le, t_0, t_1, t_2, t_3, t_4, t_5, t_6, t_7, t_8, t_9, t_10, t_11, t_12, t_20, t_24, t_40, t_50, t_60, t_99, t_110, t_255, t_999, t_999999, t_m1, gM, gN, eM, eN, eM1, eN1] at *
            omega
          · refine g_ldc d_X7_as_22 kc_X7_78 ?_
            refine h_iret d_X7_as_24 rfl ?_
            exact ⟨rfl, _, _, rfl, hR.fr fr_thrown⟩
theorem m_takeInA {h : Hv} {n : Nat} (hn : h 13 1 = nI n) (h1 : n < 110) {x : Int32} : MtF M_X5_takeIn 0 [.ref 13, .int x] (h) (some (.int 1)) (hset (hset h 14 n x) 13 1 (nI (n + 1))) := by
  refine MtF.of [some (.ref 13), some (.int x)] pl_X5 rfl rfl ?_
  refine g_aload_n d_X5_takeIn_0 rfl ?_
  refine h_getV (v := nI n) d_X5_takeIn_1 fl_5_15 sp_Tape rfl (hn) ?_
  refine g_bipush d_X5_takeIn_4 bk_110 ?_
  refine g_icmp_lt d_X5_takeIn_6 (fun c6 => ?_) (fun c6 => absurd ((nI_ltI (a := n) (b := 110) (by omega) (by decide)).mpr h1) c6)
  refine g_aload_n d_X5_takeIn_11 rfl ?_
  refine h_getR d_X5_takeIn_12 fl_5_11 sp_Tape rfl ?_
  refine g_aload_n d_X5_takeIn_15 rfl ?_
  refine h_getV (v := nI n) d_X5_takeIn_16 fl_5_15 sp_Tape rfl (hn) ?_
  refine g_iload_n d_X5_takeIn_19 rfl ?_
  refine h_astE (k := n) d_X5_takeIn_20 sp_bytes rfl (by omega) (by decide) ?_
  refine g_aload_n d_X5_takeIn_21 rfl ?_
  refine g_dup d_X5_takeIn_22 rfl ?_
  refine h_getV (v := nI n) d_X5_takeIn_23 fl_5_15 sp_Tape rfl ((hs_j (by decide)).trans hn) ?_
  refine g_iconst d_X5_takeIn_26 ik_1 ?_
  refine g_iadd d_X5_takeIn_27 ?_
  refine h_putI d_X5_takeIn_28 fl_5_15 sp_Tape rfl ?_
  refine g_iconst d_X5_takeIn_31 ik_1 ?_
  refine h_zret d_X5_takeIn_32 rfl rfl ?_
  rw [nI_1]
  exact pF rfl rfl
theorem m_takeInB {h : Hv} (hn : h 13 1 = nI 110) {x : Int32} : MtF M_X5_takeIn 0 [.ref 13, .int x] (h) (some (.int 0)) (h) := by
  refine MtF.of [some (.ref 13), some (.int x)] pl_X5 rfl rfl ?_
  refine g_aload_n d_X5_takeIn_0 rfl ?_
  refine h_getV (v := nI 110) d_X5_takeIn_1 fl_5_15 sp_Tape rfl (hn) ?_
  refine g_bipush d_X5_takeIn_4 bk_110 ?_
  refine g_icmp_lt d_X5_takeIn_6 (fun c6 => absurd c6 (by decide)) (fun c6 => ?_)
  refine g_iconst d_X5_takeIn_9 ik_0 ?_
  refine h_zret d_X5_takeIn_10 rfl rfl ?_
  exact ⟨rfl, rfl⟩
theorem RelP.fed {h w : Hv} {n b : Nat} (hR : RelP h w) (e1 : h 13 1 = nI n) (e2 : w 0 6 = nI n) (hn : n < 110) (hb : b < 256) : RelP (hset (hset h 14 n (nI b)) 13 1 (nI (n + 1))) (hset (hset (hset w 0 0 0) 4 n (nI b)) 0 6 (nI (n + 1))) := by
  have fr : ∀ x, x ≠ 0 → x ≠ 4 → hset (hset (hset w 0 0 0) 4 n (nI b)) 0 6 (nI (n + 1)) x = w x := fun x h1 h2 => funext (fun y => by rw [hs_j h1, hs_j h2, hs_j h1])
  have f0 : ∀ y, y ≠ 0 → y ≠ 6 → hset (hset (hset w 0 0 0) 4 n (nI b)) 0 6 (nI (n + 1)) 0 y = w 0 y := fun y h1 h2 => by rw [hs_b h2, hs_j (by decide), hs_b h1]
  have oh : ∀ x y, ¬ x = 14 → ¬ (x = 13 ∧ y = 1) → hset (hset h 14 n (nI b)) 13 1 (nI (n + 1)) x y = h x y := fun x y h1 h2 => by rw [hs_ne h2, hs_j h1]
  refine ⟨?_, ?_, ?_, ?_, ?_, ?_⟩
  · unfold RStat
    rw [oh _ _ (by omega) (by omega), f0 _ (by decide) (by decide)]
    exact hR.1
  · exact hR.2.1.cg (fun x y h1 h2 => oh _ _ (by omega) (by omega)) (fr _ (by decide) (by decide)) (fr _ (by decide) (by decide)) (fr _ (by decide) (by decide))
  · obtain ⟨c1, m, c2, c3, c4, c5⟩ := hR.2.2.1
    have em : m = n := nI_inj (c3.symm.trans e1) (by omega) (by omega)
    subst em
    refine ⟨?_, m + 1, by omega, hs_at, hs_at, fun k hk => ?_⟩
    · rw [hs_b (by decide), hs_j (by decide), f0 _ (by decide) (by decide)]
      exact c1
    · rw [hs_j (x := 14) (j := 13) (by decide), hs_j (x := 4) (j := 0) (by decide)]
      by_cases z : k = m
      · subst z
        rw [hs_at, hs_at]
        exact ⟨rfl, b, hb, rfl⟩
      · rw [hs_b z, hs_b z, hs_j (by decide)]
        exact c5 k (by omega)
  · exact hR.2.2.2.1.cg (fun x y q => oh _ _ (by omega) (by omega)) (fr _ (by decide) (by decide)) (fr _ (by decide) (by decide)) (fr _ (by decide) (by decide)) (f0 _ (by decide) (by decide))
  · exact hR.2.2.2.2.1.cg (fun x y h1 h2 => oh _ _ (by omega) (by omega)) (fr _ (by decide) (by decide)) (fr _ (by decide) (by decide))
  · exact hR.2.2.2.2.2.cg (fun x y q => oh _ _ (by omega) (by omega)) (f0 _ (by decide) (by decide)) (fr _ (by decide) (by decide))
theorem p_takeInA {h w : Hv} {n : Nat} (hn : h 13 1 = nI n) (h1 : n < 110) {x : Int32} : MtF M_X5_takeIn 0 [.ref 13, .int x] (mu h w) (some (.int 1)) (mu (hset (hset h 14 n x) 13 1 (nI (n + 1))) w) := by
  have q := m_takeInA (h := mu h w) ((mu_low (by decide)).trans hn) h1 (x := x)
  rw [mu_hset (by decide), mu_hset (by decide)] at q
  exact q
theorem op_feed {h w : Hv} (hR : RelP h w) {x : Int32} : OPI M_X6_feed M_X7_feed 1 1 [.int x] (mu h w) := by
  obtain ⟨-, nT, hnT, hT1, hT2, -⟩ := hR.2.2.1
  refine MtH.of [some (.ref 0), some (.int x)] pl_X6 rfl rfl ?_
  refine g_iload_n d_X6_feed_0 rfl ?_
  refine g_if_lt d_X6_feed_1 (fun c1 => ?_) (fun c1 => ?_)
  · refine g_ldc d_X6_feed_11 kc_X6_66 ?_
    refine h_iret d_X6_feed_13 rfl ?_
    refine ⟨_, rfl, ?_⟩
    refine MtH.of [some (.ref 360), some (.int x)] pl_X7 rfl rfl ?_
    refine g_aload_n d_X7_feed_0 rfl ?_
    refine g_iconst d_X7_feed_1 ik_0 ?_
    refine mm_putI d_X7_feed_2 fl_7_62 sp_M rfl ?_
    refine g_iload_n d_X7_feed_5 rfl ?_
    refine g_iconst d_X7_feed_6 ik_0 ?_
    refine g_sipush d_X7_feed_7 sk_255 ?_
    refine h_S3i d_X7_feed_10 cl_7_70 m7_in (Nat.le_of_ble_eq_true rfl) (by decide) ?_
    refine g_if_ne d_X7_feed_13 (fun c13 => ?_) (fun c13 => ?_)
    · exfalso
      simp only [b2i_eq0, b2i_ne0, Int32.lt_iff_toInt_lt, Int32.le_iff_toInt_le, t_0, t_1, t_2, t_3, t_4, t_5, t_6, t_7, t_8, t_9, t_10, t_11, t_12, t_20, t_24, t_40, t_50, t_60, t_99, t_110, t_255, t_999, t_999999, t_m1] at *
      omega
    · refine g_ldc d_X7_feed_16 kc_X7_78 ?_
      refine h_iret d_X7_feed_18 rfl ?_
      exact ⟨rfl, _, _, rfl, hR.fr fr_thrown⟩
  · refine g_iload_n d_X6_feed_4 rfl ?_
    refine g_sipush d_X6_feed_5 sk_255 ?_
    refine g_icmp_le d_X6_feed_8 (fun c8 => ?_) (fun c8 => ?_)
    · obtain ⟨b, hb, rfl⟩ := rngI (x := x) (B := 256) (by simp only [b2i_eq0, b2i_ne0, Int32.lt_iff_toInt_lt, Int32.le_iff_toInt_le, t_0, t_1, t_2, t_3, t_4, t_5, t_6, t_7, t_8, t_9, t_10, t_11, t_12, t_20, t_24, t_40, t_50, t_60, t_99, t_110, t_255, t_999, t_999999, t_m1] at *; omega) (by simp only [b2i_eq0, b2i_ne0, Int32.lt_iff_toInt_lt, Int32.le_iff_toInt_le, t_0, t_1, t_2, t_3, t_4, t_5, t_6, t_7, t_8, t_9, t_10, t_11, t_12, t_20, t_24, t_40, t_50, t_60, t_99, t_110, t_255, t_999, t_999999, t_m1] at *; omega)
      have eb : (nI b).toInt = b := nI_toInt (by omega)
      by_cases hz : nT < 110
      · refine g_aload_n d_X6_feed_14 rfl ?_
        refine h_getR d_X6_feed_15 fl_6_19 sp_L rfl ?_
        refine g_iload_n d_X6_feed_18 rfl ?_
        refine h_V1i d_X6_feed_19 cl_6_113 (p_takeInA hT1 hz) sp_Tape (by decide) rfl (Nat.le_of_ble_eq_true rfl) (by decide) ?_
        refine g_if_eq d_X6_feed_22 (fun c22 => absurd c22 (by decide)) (fun c22 => ?_)
        refine g_aload_n d_X6_feed_25 rfl ?_
        refine h_getR d_X6_feed_26 fl_6_19 sp_L rfl ?_
        refine h_getV (v := nI (nT + 1)) d_X6_feed_29 fl_6_116 sp_Tape rfl ((mu_low (by decide)).trans hs_at) ?_
        refine g_goto d_X6_feed_32 ?_
        refine h_iret d_X6_feed_37 rfl ?_
        refine ⟨_, rfl, ?_⟩
        refine MtH.of [some (.ref 360), some (.int (nI b))] pl_X7 rfl rfl ?_
        refine g_aload_n d_X7_feed_0 rfl ?_
        refine g_iconst d_X7_feed_1 ik_0 ?_
        refine mm_putI d_X7_feed_2 fl_7_62 sp_M rfl ?_
        refine g_iload_n d_X7_feed_5 rfl ?_
        refine g_iconst d_X7_feed_6 ik_0 ?_
        refine g_sipush d_X7_feed_7 sk_255 ?_
        refine h_S3i d_X7_feed_10 cl_7_70 m7_in (Nat.le_of_ble_eq_true rfl) (by decide) ?_
        refine g_if_ne d_X7_feed_13 (fun c13 => ?_) (fun c13 => ?_)
        · refine g_aload_n d_X7_feed_19 rfl ?_
          refine mm_getV (v := nI nT) d_X7_feed_20 fl_7_89 sp_M rfl ((hs_b (by decide)).trans hT2) ?_
          refine g_bipush d_X7_feed_23 bk_110 ?_
          refine g_icmp_ne d_X7_feed_25 (fun c25 => ?_) (fun c25 => absurd c25 (fun z => by have := nI_inj (a := nT) (b := 110) z (by omega) (by decide); omega))
          refine g_aload_n d_X7_feed_31 rfl ?_
          refine h_getR d_X7_feed_32 fl_7_19 sp_M rfl ?_
          refine g_aload_n d_X7_feed_35 rfl ?_
          refine mm_getV (v := nI nT) d_X7_feed_36 fl_7_89 sp_M rfl ((hs_b (by decide)).trans hT2) ?_
          refine g_iload_n d_X7_feed_39 rfl ?_
          refine mm_astE (k := nT) d_X7_feed_40 (j := 4) sp_m_tape rfl (by decide) rfl (by omega) (by decide) ?_
          refine g_aload_n d_X7_feed_41 rfl ?_
          refine g_dup d_X7_feed_42 rfl ?_
          refine mm_getV (v := nI nT) d_X7_feed_43 fl_7_89 sp_M rfl ((hs_j (by decide)).trans ((hs_b (by decide)).trans hT2)) ?_
          refine g_iconst d_X7_feed_46 ik_1 ?_
          refine g_iadd d_X7_feed_47 ?_
          refine mm_putI d_X7_feed_48 fl_7_89 sp_M rfl ?_
          rw [nI_1]
          refine g_aload_n d_X7_feed_51 rfl ?_
          refine mm_getV (v := nI (nT + 1)) d_X7_feed_52 fl_7_89 sp_M rfl (hs_at) ?_
          refine h_iret d_X7_feed_55 rfl ?_
          exact ⟨rfl, _, _, rfl, hR.fed hT1 hT2 hz hb⟩
        · exfalso
          simp only [b2i_eq0, b2i_ne0, Int32.lt_iff_toInt_lt, Int32.le_iff_toInt_le, t_0, t_1, t_2, t_3, t_4, t_5, t_6, t_7, t_8, t_9, t_10, t_11, t_12, t_20, t_24, t_40, t_50, t_60, t_99, t_110, t_255, t_999, t_999999, t_m1, eb] at *
          omega
      · have hz2 : nT = 110 := by omega
        subst hz2
        refine g_aload_n d_X6_feed_14 rfl ?_
        refine h_getR d_X6_feed_15 fl_6_19 sp_L rfl ?_
        refine g_iload_n d_X6_feed_18 rfl ?_
        refine h_V1i d_X6_feed_19 cl_6_113 (m_takeInB ((mu_low (by decide)).trans hT1)) sp_Tape (by decide) rfl (Nat.le_of_ble_eq_true rfl) (by decide) ?_
        refine g_if_eq d_X6_feed_22 (fun c22 => ?_) (fun c22 => absurd rfl c22)
        refine g_ldc d_X6_feed_35 kc_X6_119 ?_
        refine h_iret d_X6_feed_37 rfl ?_
        refine ⟨_, rfl, ?_⟩
        refine MtH.of [some (.ref 360), some (.int (nI b))] pl_X7 rfl rfl ?_
        refine g_aload_n d_X7_feed_0 rfl ?_
        refine g_iconst d_X7_feed_1 ik_0 ?_
        refine mm_putI d_X7_feed_2 fl_7_62 sp_M rfl ?_
        refine g_iload_n d_X7_feed_5 rfl ?_
        refine g_iconst d_X7_feed_6 ik_0 ?_
        refine g_sipush d_X7_feed_7 sk_255 ?_
        refine h_S3i d_X7_feed_10 cl_7_70 m7_in (Nat.le_of_ble_eq_true rfl) (by decide) ?_
        refine g_if_ne d_X7_feed_13 (fun c13 => ?_) (fun c13 => ?_)
        · refine g_aload_n d_X7_feed_19 rfl ?_
          refine mm_getV (v := nI 110) d_X7_feed_20 fl_7_89 sp_M rfl ((hs_b (by decide)).trans hT2) ?_
          refine g_bipush d_X7_feed_23 bk_110 ?_
          refine g_icmp_ne d_X7_feed_25 (fun c25 => absurd rfl c25) (fun c25 => ?_)
          refine g_ldc d_X7_feed_28 kc_X7_92 ?_
          refine h_iret d_X7_feed_30 rfl ?_
          exact ⟨rfl, _, _, rfl, hR.fr fr_thrown⟩
        · exfalso
          simp only [b2i_eq0, b2i_ne0, Int32.lt_iff_toInt_lt, Int32.le_iff_toInt_le, t_0, t_1, t_2, t_3, t_4, t_5, t_6, t_7, t_8, t_9, t_10, t_11, t_12, t_20, t_24, t_40, t_50, t_60, t_99, t_110, t_255, t_999, t_999999, t_m1, eb] at *
          omega
    · refine g_ldc d_X6_feed_11 kc_X6_66 ?_
      refine h_iret d_X6_feed_13 rfl ?_
      refine ⟨_, rfl, ?_⟩
      refine MtH.of [some (.ref 360), some (.int x)] pl_X7 rfl rfl ?_
      refine g_aload_n d_X7_feed_0 rfl ?_
      refine g_iconst d_X7_feed_1 ik_0 ?_
      refine mm_putI d_X7_feed_2 fl_7_62 sp_M rfl ?_
      refine g_iload_n d_X7_feed_5 rfl ?_
      refine g_iconst d_X7_feed_6 ik_0 ?_
      refine g_sipush d_X7_feed_7 sk_255 ?_
      refine h_S3i d_X7_feed_10 cl_7_70 m7_in (Nat.le_of_ble_eq_true rfl) (by decide) ?_
      refine g_if_ne d_X7_feed_13 (fun c13 => ?_) (fun c13 => ?_)
      · exfalso
        simp only [b2i_eq0, b2i_ne0, Int32.lt_iff_toInt_lt, Int32.le_iff_toInt_le, t_0, t_1, t_2, t_3, t_4, t_5, t_6, t_7, t_8, t_9, t_10, t_11, t_12, t_20, t_24, t_40, t_50, t_60, t_99, t_110, t_255, t_999, t_999999, t_m1] at *
        omega
      · refine g_ldc d_X7_feed_16 kc_X7_78 ?_
        refine h_iret d_X7_feed_18 rfl ?_
        exact ⟨rfl, _, _, rfl, hR.fr fr_thrown⟩
def asW (w : Hv) (t : List Int32) : Hv := fun a b => if a = 0 ∧ b = 27 then nI t.length else if a = 15 ∧ b < t.length then t.getD b 0 else w a b
theorem asW_o {w : Hv} {t : List Int32} {a b : Nat} (h1 : ¬ (a = 0 ∧ b = 27)) (h2 : a ≠ 15) : asW w t a b = w a b := by
  unfold asW
  rw [if_neg h1, if_neg (fun z => h2 z.1)]
theorem asW_n {w : Hv} {t : List Int32} : asW w t 0 27 = nI t.length := by
  unfold asW
  rw [if_pos ⟨rfl, rfl⟩]
theorem asW_push {h : Hv} {t : List Int32} {v : Int32} : hset (hset (asW h t) 15 t.length v) 0 27 (nI t.length + 1) = asW h (t ++ [v]) := by
  funext a b
  unfold hset asW
  by_cases h1 : a = 0 ∧ b = 27
  · rw [if_pos h1, if_pos h1, List.length_append]
    exact nI_1 t.length
  · simp only [if_neg h1]
    by_cases h2 : a = 15 ∧ b = t.length
    · rw [if_pos h2, if_pos ⟨h2.1, by rw [List.length_append, h2.2]; exact Nat.lt_succ_self _⟩, h2.2, List.getD_eq_getElem?_getD, List.getElem?_append_right (Nat.le_refl _)]
      simp
    · rw [if_neg h2]
      by_cases h3 : a = 15 ∧ b < t.length
      · rw [if_pos h3, if_pos ⟨h3.1, by rw [List.length_append]; exact Nat.lt_succ_of_lt h3.2⟩, List.getD_eq_getElem?_getD, List.getD_eq_getElem?_getD, List.getElem?_append_left h3.2]
      · rw [if_neg h3, if_neg (fun z => h3 ⟨z.1, by
          have z2 := z.2
          rw [List.length_append] at z2
          have z3 : b ≠ t.length := fun e => h2 ⟨z.1, e⟩
          simp at z2
          omega⟩)]
theorem asW_0 {h : Hv} : hset h 0 27 0 = asW h [] := by
  funext a b
  unfold hset asW
  by_cases h1 : a = 0 ∧ b = 27
  · rw [if_pos h1, if_pos h1]
    rfl
  · rw [if_neg h1, if_neg h1, if_neg (fun z => by have := z.2; simp at this)]
theorem asH_mu {h w : Hv} {t : List Int32} : asH (mu h w) t = mu (asH h t) w := by
  funext a b
  unfold asH mu blk
  dsimp only
  by_cases h1 : a = 333 ∧ b = 1
  · rw [if_pos h1, if_neg (by omega), if_pos h1]
  · rw [if_neg h1]
    by_cases h2 : a = 334 ∧ b < t.length
    · rw [if_pos h2, if_neg (by omega), if_neg h1, if_pos h2]
    · rw [if_neg h2, if_neg h1, if_neg h2]
theorem RelP.asked {h w : Hv} (hR : RelP h w) {t : List Int32} (ht : t.length ≤ 16) : RelP (asH h t) (asW (hset w 0 0 0) t) := by
  have fr : ∀ x, x ≠ 0 → x ≠ 15 → asW (hset w 0 0 0) t x = w x := fun x h1 h2 => funext (fun y => by rw [asW_o (fun q => h1 q.1) h2, hs_j h1])
  have f0 : ∀ y, y ≠ 0 → y ≠ 27 → asW (hset w 0 0 0) t 0 y = w 0 y := fun y h1 h2 => by rw [asW_o (fun q => h2 q.2) (by decide), hs_b h1]
  have oh : ∀ x y, x ≠ 333 → x ≠ 334 → asH h t x y = h x y := fun x y h1 h2 => asH_o h1 h2
  refine ⟨?_, ?_, ?_, ?_, ?_, ⟨t.length, ht, asH_n, asW_n, fun b hb => ?_⟩⟩
  · unfold RStat
    rw [oh _ _ (by omega) (by omega), f0 _ (by decide) (by decide)]
    exact hR.1
  · exact hR.2.1.cg (fun x y h1 h2 => oh _ _ (by omega) (by omega)) (fr _ (by decide) (by decide)) (fr _ (by decide) (by decide)) (fr _ (by decide) (by decide))
  · exact hR.2.2.1.cg (fun x y q => oh _ _ (by omega) (by omega)) (f0 _ (by decide) (by decide)) (f0 _ (by decide) (by decide)) (fr _ (by decide) (by decide))
  · exact hR.2.2.2.1.cg (fun x y q => oh _ _ (by omega) (by omega)) (fr _ (by decide) (by decide)) (fr _ (by decide) (by decide)) (fr _ (by decide) (by decide)) (f0 _ (by decide) (by decide))
  · exact hR.2.2.2.2.1.cg (fun x y h1 h2 => oh _ _ (by omega) (by omega)) (fr _ (by decide) (by decide)) (fr _ (by decide) (by decide))
  · unfold asH asW
    rw [if_neg (by omega), if_pos ⟨rfl, hb⟩, if_neg (by omega), if_pos ⟨rfl, hb⟩]
theorem m7_leaves {h w : Hv} {t : List Int32} (ht : t.length + 1 ≤ 16) {v : Int32} : MtF M_X7_leaves 0 [.ref 360, .int v] (mu h (asW w t)) (none) (mu h (asW w (t ++ [v]))) := by
  refine MtF.of [some (.ref 360), some (.int v)] pl_X7 rfl rfl ?_
  refine g_aload_n d_X7_leaves_0 rfl ?_
  refine mm_getV (v := nI t.length) d_X7_leaves_1 fl_7_264 sp_M rfl (asW_n) ?_
  refine g_bipush d_X7_leaves_4 bk_16 ?_
  refine g_icmp_ge d_X7_leaves_6 (fun c6 => absurd c6 (nI_ge (b := 16) (by omega) (by decide))) (fun c6 => ?_)
  refine g_aload_n d_X7_leaves_9 rfl ?_
  refine h_getR d_X7_leaves_10 fl_7_53 sp_M rfl ?_
  refine g_aload_n d_X7_leaves_13 rfl ?_
  refine mm_getV (v := nI t.length) d_X7_leaves_14 fl_7_264 sp_M rfl (asW_n) ?_
  refine g_iload_n d_X7_leaves_17 rfl ?_
  refine mm_astE (k := t.length) d_X7_leaves_18 (j := 15) sp_m_traced rfl (by decide) rfl (by omega) (by decide) ?_
  refine g_aload_n d_X7_leaves_19 rfl ?_
  refine g_dup d_X7_leaves_20 rfl ?_
  refine mm_getV (v := nI t.length) d_X7_leaves_21 fl_7_264 sp_M rfl ((hs_j (by decide)).trans asW_n) ?_
  refine g_iconst d_X7_leaves_24 ik_1 ?_
  refine g_iadd d_X7_leaves_25 ?_
  refine mm_putI d_X7_leaves_26 fl_7_264 sp_M rfl ?_
  refine h_vret d_X7_leaves_29 rfl ?_
  exact pF rfl (by rw [asW_push])
theorem m7_lentRoom {h w : Hv} {t : List Int32} {k : Nat} (hk : k < 5) {m : Int32} (em : m = nI k) (ht : t.length + 1 ≤ 16) : MtF M_X7_lentRoom 1 [.ref 360, .int m] (mu h (asW w t)) (some (.int (w 7 (7 + k)))) (mu h (asW w (t ++ [10]))) := by
  subst em
  refine MtF.of [some (.ref 360), some (.int (nI k))] pl_X7 rfl rfl ?_
  refine g_aload_n d_X7_lentRoom_0 rfl ?_
  refine g_bipush d_X7_lentRoom_1 bk_10 ?_
  refine h_V1v d_X7_lentRoom_3 cl_7_267 (m7_leaves (by simp; omega)) sp_M (by decide) rfl (Nat.le_of_ble_eq_true rfl) (by decide) ?_
  refine g_aload_n d_X7_lentRoom_6 rfl ?_
  refine h_getR d_X7_lentRoom_7 fl_7_28 sp_M rfl ?_
  refine g_bipush d_X7_lentRoom_10 bk_7 ?_
  refine g_iload_n d_X7_lentRoom_12 rfl ?_
  refine g_iadd d_X7_lentRoom_13 ?_
  refine mm_aldV (k := (7 + k)) (v := w 7 (7 + k)) d_X7_lentRoom_14 (j := 7) sp_m_d rfl (by decide) (nAdd rfl rfl) (by omega) (by decide) (asW_o (by omega) (by decide)) ?_
  refine h_iret d_X7_lentRoom_15 rfl ?_
  exact pF rfl (by simp [List.append_assoc])
theorem m7_lentNumber {h w : Hv} {t : List Int32} {k : Nat} (hk : k < 5) {m : Int32} (em : m = nI k) (ht : t.length + 1 ≤ 16) : MtF M_X7_lentNumber 1 [.ref 360, .int m] (mu h (asW w t)) (some (.int (nI k))) (mu h (asW w (t ++ [20]))) := by
  subst em
  refine MtF.of [some (.ref 360), some (.int (nI k))] pl_X7 rfl rfl ?_
  refine g_aload_n d_X7_lentNumber_0 rfl ?_
  refine g_bipush d_X7_lentNumber_1 bk_20 ?_
  refine h_V1v d_X7_lentNumber_3 cl_7_267 (m7_leaves (by simp; omega)) sp_M (by decide) rfl (Nat.le_of_ble_eq_true rfl) (by decide) ?_
  refine g_iload_n d_X7_lentNumber_6 rfl ?_
  refine h_iret d_X7_lentNumber_7 rfl ?_
  exact pF rfl (by simp [List.append_assoc])
theorem m7_washerMark_1 {h w : Hv} {t : List Int32} {k : Nat} (hk : k < 5) {m : Int32} (em : m = nI k) (hkd : w 7 (2 + k) = 1) (ht : t.length + 2 ≤ 16) : MtF M_X7_washerMark 2 [.ref 360, .int m] (mu h (asW w t)) (some (.int (nI k + w 8 (13 + k)))) (mu h (asW w (t ++ [21, 20]))) := by
  subst em
  refine MtF.of [some (.ref 360), some (.int (nI k)), none, none] pl_X7 rfl rfl ?_
  refine g_aload_n d_X7_washerMark_0 rfl ?_
  refine h_getR d_X7_washerMark_1 fl_7_28 sp_M rfl ?_
  refine g_iconst d_X7_washerMark_4 ik_2 ?_
  refine g_iload_n d_X7_washerMark_5 rfl ?_
  refine g_iadd d_X7_washerMark_6 ?_
  refine mm_aldV (k := (2 + k)) (v := 1) d_X7_washerMark_7 (j := 7) sp_m_d rfl (by decide) (nAdd rfl rfl) (by omega) (by decide) ((asW_o (by omega) (by decide)).trans hkd) ?_
  refine w_istore_n (L' := [_, _, _, _]) d_X7_washerMark_8 rfl rfl rfl ?_
  refine g_iload_n d_X7_washerMark_9 rfl ?_
  refine g_iconst d_X7_washerMark_10 ik_1 ?_
  refine g_icmp_eq d_X7_washerMark_11 (fun c11 => ?_) (fun c11 => absurd c11 (by decide))
  refine g_aload_n d_X7_washerMark_30 rfl ?_
  refine g_bipush d_X7_washerMark_31 bk_21 ?_
  refine h_V1v d_X7_washerMark_33 cl_7_267 (m7_leaves (by simp; omega)) sp_M (by decide) rfl (Nat.le_of_ble_eq_true rfl) (by decide) ?_
  refine g_aload_n d_X7_washerMark_36 rfl ?_
  refine g_iload_n d_X7_washerMark_37 rfl ?_
  refine h_V1i d_X7_washerMark_38 cl_7_270 (m7_lentNumber hk rfl (by simp; omega)) sp_M (by decide) rfl (Nat.le_of_ble_eq_true rfl) (by decide) ?_
  refine g_aload_n d_X7_washerMark_41 rfl ?_
  refine h_getR d_X7_washerMark_42 fl_7_31 sp_M rfl ?_
  refine g_bipush d_X7_washerMark_45 bk_13 ?_
  refine g_iload_n d_X7_washerMark_47 rfl ?_
  refine g_iadd d_X7_washerMark_48 ?_
  refine mm_aldV (k := (13 + k)) (v := w 8 (13 + k)) d_X7_washerMark_49 (j := 8) sp_m_s rfl (by decide) (nAdd rfl rfl) (by omega) (by decide) (asW_o (by omega) (by decide)) ?_
  refine g_iadd d_X7_washerMark_50 ?_
  refine w_istore_n (L' := [_, _, _, _]) d_X7_washerMark_51 rfl rfl rfl ?_
  refine g_iload_n d_X7_washerMark_52 rfl ?_
  refine g_iconst d_X7_washerMark_53 ik_2 ?_
  refine g_icmp_ne d_X7_washerMark_54 (fun c54 => ?_) (fun c54 => absurd c54 (by decide))
  refine g_iload_n d_X7_washerMark_63 rfl ?_
  refine g_iconst d_X7_washerMark_64 ik_3 ?_
  refine g_icmp_ne d_X7_washerMark_65 (fun c65 => ?_) (fun c65 => absurd c65 (by decide))
  refine g_iload_n d_X7_washerMark_76 rfl ?_
  refine h_iret d_X7_washerMark_77 rfl ?_
  exact pF rfl (by simp [List.append_assoc])
theorem m7_washerMark_2 {h w : Hv} {t : List Int32} {k : Nat} (hk : k < 5) {m : Int32} (em : m = nI k) (hkd : w 7 (2 + k) = 2) (ht : t.length + 3 ≤ 16) : MtF M_X7_washerMark 2 [.ref 360, .int m] (mu h (asW w t)) (some (.int (2 * (nI k + w 8 (13 + k))))) (mu h (asW w (t ++ [24, 21, 20]))) := by
  subst em
  refine MtF.of [some (.ref 360), some (.int (nI k)), none, none] pl_X7 rfl rfl ?_
  refine g_aload_n d_X7_washerMark_0 rfl ?_
  refine h_getR d_X7_washerMark_1 fl_7_28 sp_M rfl ?_
  refine g_iconst d_X7_washerMark_4 ik_2 ?_
  refine g_iload_n d_X7_washerMark_5 rfl ?_
  refine g_iadd d_X7_washerMark_6 ?_
  refine mm_aldV (k := (2 + k)) (v := 2) d_X7_washerMark_7 (j := 7) sp_m_d rfl (by decide) (nAdd rfl rfl) (by omega) (by decide) ((asW_o (by omega) (by decide)).trans hkd) ?_
  refine w_istore_n (L' := [_, _, _, _]) d_X7_washerMark_8 rfl rfl rfl ?_
  refine g_iload_n d_X7_washerMark_9 rfl ?_
  refine g_iconst d_X7_washerMark_10 ik_1 ?_
  refine g_icmp_eq d_X7_washerMark_11 (fun c11 => absurd c11 (by decide)) (fun c11 => ?_)
  refine g_aload_n d_X7_washerMark_14 rfl ?_
  refine g_iload_n d_X7_washerMark_15 rfl ?_
  refine g_iconst d_X7_washerMark_16 ik_2 ?_
  refine g_icmp_ne d_X7_washerMark_17 (fun c17 => absurd c17 (by decide)) (fun c17 => ?_)
  refine g_bipush d_X7_washerMark_20 bk_24 ?_
  refine g_goto d_X7_washerMark_22 ?_
  refine h_V1v d_X7_washerMark_27 cl_7_267 (m7_leaves (by simp; omega)) sp_M (by decide) rfl (Nat.le_of_ble_eq_true rfl) (by decide) ?_
  refine g_aload_n d_X7_washerMark_30 rfl ?_
  refine g_bipush d_X7_washerMark_31 bk_21 ?_
  refine h_V1v d_X7_washerMark_33 cl_7_267 (m7_leaves (by simp; omega)) sp_M (by decide) rfl (Nat.le_of_ble_eq_true rfl) (by decide) ?_
  refine g_aload_n d_X7_washerMark_36 rfl ?_
  refine g_iload_n d_X7_washerMark_37 rfl ?_
  refine h_V1i d_X7_washerMark_38 cl_7_270 (m7_lentNumber hk rfl (by simp; omega)) sp_M (by decide) rfl (Nat.le_of_ble_eq_true rfl) (by decide) ?_
  refine g_aload_n d_X7_washerMark_41 rfl ?_
  refine h_getR d_X7_washerMark_42 fl_7_31 sp_M rfl ?_
  refine g_bipush d_X7_washerMark_45 bk_13 ?_
  refine g_iload_n d_X7_washerMark_47 rfl ?_
  refine g_iadd d_X7_washerMark_48 ?_
  refine mm_aldV (k := (13 + k)) (v := w 8 (13 + k)) d_X7_washerMark_49 (j := 8) sp_m_s rfl (by decide) (nAdd rfl rfl) (by omega) (by decide) (asW_o (by omega) (by decide)) ?_
  refine g_iadd d_X7_washerMark_50 ?_
  refine w_istore_n (L' := [_, _, _, _]) d_X7_washerMark_51 rfl rfl rfl ?_
  refine g_iload_n d_X7_washerMark_52 rfl ?_
  refine g_iconst d_X7_washerMark_53 ik_2 ?_
  refine g_icmp_ne d_X7_washerMark_54 (fun c54 => absurd c54 (by decide)) (fun c54 => ?_)
  refine g_iconst d_X7_washerMark_57 ik_2 ?_
  refine g_iload_n d_X7_washerMark_58 rfl ?_
  refine g_imul d_X7_washerMark_59 ?_
  refine g_goto d_X7_washerMark_60 ?_
  refine h_iret d_X7_washerMark_77 rfl ?_
  exact pF rfl (by simp [List.append_assoc])
theorem m7_washerMark_3 {h w : Hv} {t : List Int32} {k : Nat} (hk : k < 5) {m : Int32} (em : m = nI k) (hkd : w 7 (2 + k) = 3) (ht : t.length + 3 ≤ 16) : MtF M_X7_washerMark 2 [.ref 360, .int m] (mu h (asW w t)) (some (.int (nI k + w 8 (13 + k) - 1000))) (mu h (asW w (t ++ [22, 21, 20]))) := by
  subst em
  refine MtF.of [some (.ref 360), some (.int (nI k)), none, none] pl_X7 rfl rfl ?_
  refine g_aload_n d_X7_washerMark_0 rfl ?_
  refine h_getR d_X7_washerMark_1 fl_7_28 sp_M rfl ?_
  refine g_iconst d_X7_washerMark_4 ik_2 ?_
  refine g_iload_n d_X7_washerMark_5 rfl ?_
  refine g_iadd d_X7_washerMark_6 ?_
  refine mm_aldV (k := (2 + k)) (v := 3) d_X7_washerMark_7 (j := 7) sp_m_d rfl (by decide) (nAdd rfl rfl) (by omega) (by decide) ((asW_o (by omega) (by decide)).trans hkd) ?_
  refine w_istore_n (L' := [_, _, _, _]) d_X7_washerMark_8 rfl rfl rfl ?_
  refine g_iload_n d_X7_washerMark_9 rfl ?_
  refine g_iconst d_X7_washerMark_10 ik_1 ?_
  refine g_icmp_eq d_X7_washerMark_11 (fun c11 => absurd c11 (by decide)) (fun c11 => ?_)
  refine g_aload_n d_X7_washerMark_14 rfl ?_
  refine g_iload_n d_X7_washerMark_15 rfl ?_
  refine g_iconst d_X7_washerMark_16 ik_2 ?_
  refine g_icmp_ne d_X7_washerMark_17 (fun c17 => ?_) (fun c17 => absurd c17 (by decide))
  refine g_bipush d_X7_washerMark_25 bk_22 ?_
  refine h_V1v d_X7_washerMark_27 cl_7_267 (m7_leaves (by simp; omega)) sp_M (by decide) rfl (Nat.le_of_ble_eq_true rfl) (by decide) ?_
  refine g_aload_n d_X7_washerMark_30 rfl ?_
  refine g_bipush d_X7_washerMark_31 bk_21 ?_
  refine h_V1v d_X7_washerMark_33 cl_7_267 (m7_leaves (by simp; omega)) sp_M (by decide) rfl (Nat.le_of_ble_eq_true rfl) (by decide) ?_
  refine g_aload_n d_X7_washerMark_36 rfl ?_
  refine g_iload_n d_X7_washerMark_37 rfl ?_
  refine h_V1i d_X7_washerMark_38 cl_7_270 (m7_lentNumber hk rfl (by simp; omega)) sp_M (by decide) rfl (Nat.le_of_ble_eq_true rfl) (by decide) ?_
  refine g_aload_n d_X7_washerMark_41 rfl ?_
  refine h_getR d_X7_washerMark_42 fl_7_31 sp_M rfl ?_
  refine g_bipush d_X7_washerMark_45 bk_13 ?_
  refine g_iload_n d_X7_washerMark_47 rfl ?_
  refine g_iadd d_X7_washerMark_48 ?_
  refine mm_aldV (k := (13 + k)) (v := w 8 (13 + k)) d_X7_washerMark_49 (j := 8) sp_m_s rfl (by decide) (nAdd rfl rfl) (by omega) (by decide) (asW_o (by omega) (by decide)) ?_
  refine g_iadd d_X7_washerMark_50 ?_
  refine w_istore_n (L' := [_, _, _, _]) d_X7_washerMark_51 rfl rfl rfl ?_
  refine g_iload_n d_X7_washerMark_52 rfl ?_
  refine g_iconst d_X7_washerMark_53 ik_2 ?_
  refine g_icmp_ne d_X7_washerMark_54 (fun c54 => ?_) (fun c54 => absurd c54 (by decide))
  refine g_iload_n d_X7_washerMark_63 rfl ?_
  refine g_iconst d_X7_washerMark_64 ik_3 ?_
  refine g_icmp_ne d_X7_washerMark_65 (fun c65 => absurd c65 (by decide)) (fun c65 => ?_)
  refine g_iload_n d_X7_washerMark_68 rfl ?_
  refine g_sipush d_X7_washerMark_69 sk_1000 ?_
  refine g_isub d_X7_washerMark_72 ?_
  refine g_goto d_X7_washerMark_73 ?_
  refine h_iret d_X7_washerMark_77 rfl ?_
  exact pF rfl (by simp [List.append_assoc])
theorem m7_washerSize_1 {h w : Hv} {t : List Int32} {k : Nat} (hk : k < 5) {m : Int32} (em : m = nI k) (hkd : w 7 (2 + k) = 1) (ht : t.length + 4 ≤ 16) : MtF M_X7_washerSize 3 [.ref 360, .int m] (mu h (asW w t)) (some (.int (w 7 (7 + k) + (nI k + w 8 (13 + k))))) (mu h (asW w (t ++ [11, 10, 21, 20]))) := by
  subst em
  refine MtF.of [some (.ref 360), some (.int (nI k)), none, none, none] pl_X7 rfl rfl ?_
  refine g_aload_n d_X7_washerSize_0 rfl ?_
  refine h_getR d_X7_washerSize_1 fl_7_28 sp_M rfl ?_
  refine g_iconst d_X7_washerSize_4 ik_2 ?_
  refine g_iload_n d_X7_washerSize_5 rfl ?_
  refine g_iadd d_X7_washerSize_6 ?_
  refine mm_aldV (k := (2 + k)) (v := 1) d_X7_washerSize_7 (j := 7) sp_m_d rfl (by decide) (nAdd rfl rfl) (by omega) (by decide) ((asW_o (by omega) (by decide)).trans hkd) ?_
  refine g_iconst d_X7_washerSize_8 ik_2 ?_
  refine g_icmp_ne d_X7_washerSize_9 (fun c9 => ?_) (fun c9 => absurd c9 (by decide))
  refine g_iconst d_X7_washerSize_16 ik_0 ?_
  refine w_istore_n (L' := [_, _, _, _, _]) d_X7_washerSize_17 rfl rfl rfl ?_
  refine g_iload_n d_X7_washerSize_18 rfl ?_
  refine g_if_eq d_X7_washerSize_19 (fun c19 => ?_) (fun c19 => absurd c19 (by decide))
  refine g_aload_n d_X7_washerSize_28 rfl ?_
  refine g_bipush d_X7_washerSize_29 bk_11 ?_
  refine h_V1v d_X7_washerSize_31 cl_7_267 (m7_leaves (by simp; omega)) sp_M (by decide) rfl (Nat.le_of_ble_eq_true rfl) (by decide) ?_
  refine g_aload_n d_X7_washerSize_34 rfl ?_
  refine g_iload_n d_X7_washerSize_35 rfl ?_
  refine h_V1i d_X7_washerSize_36 cl_7_273 (m7_lentRoom hk rfl (by simp; omega)) sp_M (by decide) rfl (Nat.le_of_ble_eq_true rfl) (by decide) ?_
  refine w_istore_n (L' := [_, _, _, _, _]) d_X7_washerSize_39 rfl rfl rfl ?_
  refine g_iload_n d_X7_washerSize_40 rfl ?_
  refine g_aload_n d_X7_washerSize_41 rfl ?_
  refine g_iload_n d_X7_washerSize_42 rfl ?_
  refine h_V1i d_X7_washerSize_43 cl_7_276 (m7_washerMark_1 hk rfl hkd (by simp; omega)) sp_M (by decide) rfl (Nat.le_of_ble_eq_true rfl) (by decide) ?_
  refine g_iadd d_X7_washerSize_46 ?_
  refine w_istore (L' := [_, _, _, _, _]) d_X7_washerSize_47 rfl rfl rfl ?_
  refine g_iload_n d_X7_washerSize_49 rfl ?_
  refine g_if_eq d_X7_washerSize_50 (fun c50 => ?_) (fun c50 => absurd c50 (by decide))
  refine g_iload d_X7_washerSize_59 rfl ?_
  refine h_iret d_X7_washerSize_61 rfl ?_
  exact pF rfl (by simp [List.append_assoc])
theorem m7_washerSize_2 {h w : Hv} {t : List Int32} {k : Nat} (hk : k < 5) {m : Int32} (em : m = nI k) (hkd : w 7 (2 + k) = 2) (ht : t.length + 6 ≤ 16) : MtF M_X7_washerSize 3 [.ref 360, .int m] (mu h (asW w t)) (some (.int (-(w 7 (7 + k) + (2 * (nI k + w 8 (13 + k))))))) (mu h (asW w (t ++ [12, 11, 10, 24, 21, 20]))) := by
  subst em
  refine MtF.of [some (.ref 360), some (.int (nI k)), none, none, none] pl_X7 rfl rfl ?_
  refine g_aload_n d_X7_washerSize_0 rfl ?_
  refine h_getR d_X7_washerSize_1 fl_7_28 sp_M rfl ?_
  refine g_iconst d_X7_washerSize_4 ik_2 ?_
  refine g_iload_n d_X7_washerSize_5 rfl ?_
  refine g_iadd d_X7_washerSize_6 ?_
  refine mm_aldV (k := (2 + k)) (v := 2) d_X7_washerSize_7 (j := 7) sp_m_d rfl (by decide) (nAdd rfl rfl) (by omega) (by decide) ((asW_o (by omega) (by decide)).trans hkd) ?_
  refine g_iconst d_X7_washerSize_8 ik_2 ?_
  refine g_icmp_ne d_X7_washerSize_9 (fun c9 => absurd c9 (by decide)) (fun c9 => ?_)
  refine g_iconst d_X7_washerSize_12 ik_1 ?_
  refine g_goto d_X7_washerSize_13 ?_
  refine w_istore_n (L' := [_, _, _, _, _]) d_X7_washerSize_17 rfl rfl rfl ?_
  refine g_iload_n d_X7_washerSize_18 rfl ?_
  refine g_if_eq d_X7_washerSize_19 (fun c19 => absurd c19 (by decide)) (fun c19 => ?_)
  refine g_aload_n d_X7_washerSize_22 rfl ?_
  refine g_bipush d_X7_washerSize_23 bk_12 ?_
  refine h_V1v d_X7_washerSize_25 cl_7_267 (m7_leaves (by simp; omega)) sp_M (by decide) rfl (Nat.le_of_ble_eq_true rfl) (by decide) ?_
  refine g_aload_n d_X7_washerSize_28 rfl ?_
  refine g_bipush d_X7_washerSize_29 bk_11 ?_
  refine h_V1v d_X7_washerSize_31 cl_7_267 (m7_leaves (by simp; omega)) sp_M (by decide) rfl (Nat.le_of_ble_eq_true rfl) (by decide) ?_
  refine g_aload_n d_X7_washerSize_34 rfl ?_
  refine g_iload_n d_X7_washerSize_35 rfl ?_
  refine h_V1i d_X7_washerSize_36 cl_7_273 (m7_lentRoom hk rfl (by simp; omega)) sp_M (by decide) rfl (Nat.le_of_ble_eq_true rfl) (by decide) ?_
  refine w_istore_n (L' := [_, _, _, _, _]) d_X7_washerSize_39 rfl rfl rfl ?_
  refine g_iload_n d_X7_washerSize_40 rfl ?_
  refine g_aload_n d_X7_washerSize_41 rfl ?_
  refine g_iload_n d_X7_washerSize_42 rfl ?_
  refine h_V1i d_X7_washerSize_43 cl_7_276 (m7_washerMark_2 hk rfl hkd (by simp; omega)) sp_M (by decide) rfl (Nat.le_of_ble_eq_true rfl) (by decide) ?_
  refine g_iadd d_X7_washerSize_46 ?_
  refine w_istore (L' := [_, _, _, _, _]) d_X7_washerSize_47 rfl rfl rfl ?_
  refine g_iload_n d_X7_washerSize_49 rfl ?_
  refine g_if_eq d_X7_washerSize_50 (fun c50 => absurd c50 (by decide)) (fun c50 => ?_)
  refine g_iload d_X7_washerSize_53 rfl ?_
  refine g_ineg d_X7_washerSize_55 ?_
  refine g_goto d_X7_washerSize_56 ?_
  refine h_iret d_X7_washerSize_61 rfl ?_
  exact pF rfl (by simp [List.append_assoc])
theorem m7_washerSize_3 {h w : Hv} {t : List Int32} {k : Nat} (hk : k < 5) {m : Int32} (em : m = nI k) (hkd : w 7 (2 + k) = 3) (ht : t.length + 5 ≤ 16) : MtF M_X7_washerSize 3 [.ref 360, .int m] (mu h (asW w t)) (some (.int (w 7 (7 + k) + (nI k + w 8 (13 + k) - 1000)))) (mu h (asW w (t ++ [11, 10, 22, 21, 20]))) := by
  subst em
  refine MtF.of [some (.ref 360), some (.int (nI k)), none, none, none] pl_X7 rfl rfl ?_
  refine g_aload_n d_X7_washerSize_0 rfl ?_
  refine h_getR d_X7_washerSize_1 fl_7_28 sp_M rfl ?_
  refine g_iconst d_X7_washerSize_4 ik_2 ?_
  refine g_iload_n d_X7_washerSize_5 rfl ?_
  refine g_iadd d_X7_washerSize_6 ?_
  refine mm_aldV (k := (2 + k)) (v := 3) d_X7_washerSize_7 (j := 7) sp_m_d rfl (by decide) (nAdd rfl rfl) (by omega) (by decide) ((asW_o (by omega) (by decide)).trans hkd) ?_
  refine g_iconst d_X7_washerSize_8 ik_2 ?_
  refine g_icmp_ne d_X7_washerSize_9 (fun c9 => ?_) (fun c9 => absurd c9 (by decide))
  refine g_iconst d_X7_washerSize_16 ik_0 ?_
  refine w_istore_n (L' := [_, _, _, _, _]) d_X7_washerSize_17 rfl rfl rfl ?_
  refine g_iload_n d_X7_washerSize_18 rfl ?_
  refine g_if_eq d_X7_washerSize_19 (fun c19 => ?_) (fun c19 => absurd c19 (by decide))
  refine g_aload_n d_X7_washerSize_28 rfl ?_
  refine g_bipush d_X7_washerSize_29 bk_11 ?_
  refine h_V1v d_X7_washerSize_31 cl_7_267 (m7_leaves (by simp; omega)) sp_M (by decide) rfl (Nat.le_of_ble_eq_true rfl) (by decide) ?_
  refine g_aload_n d_X7_washerSize_34 rfl ?_
  refine g_iload_n d_X7_washerSize_35 rfl ?_
  refine h_V1i d_X7_washerSize_36 cl_7_273 (m7_lentRoom hk rfl (by simp; omega)) sp_M (by decide) rfl (Nat.le_of_ble_eq_true rfl) (by decide) ?_
  refine w_istore_n (L' := [_, _, _, _, _]) d_X7_washerSize_39 rfl rfl rfl ?_
  refine g_iload_n d_X7_washerSize_40 rfl ?_
  refine g_aload_n d_X7_washerSize_41 rfl ?_
  refine g_iload_n d_X7_washerSize_42 rfl ?_
  refine h_V1i d_X7_washerSize_43 cl_7_276 (m7_washerMark_3 hk rfl hkd (by simp; omega)) sp_M (by decide) rfl (Nat.le_of_ble_eq_true rfl) (by decide) ?_
  refine g_iadd d_X7_washerSize_46 ?_
  refine w_istore (L' := [_, _, _, _, _]) d_X7_washerSize_47 rfl rfl rfl ?_
  refine g_iload_n d_X7_washerSize_49 rfl ?_
  refine g_if_eq d_X7_washerSize_50 (fun c50 => ?_) (fun c50 => absurd c50 (by decide))
  refine g_iload d_X7_washerSize_59 rfl ?_
  refine h_iret d_X7_washerSize_61 rfl ?_
  exact pF rfl (by simp [List.append_assoc])
theorem m7_dryerSize_4 {h w : Hv} {t : List Int32} {k : Nat} (hk : k < 5) {m : Int32} (em : m = nI k) (hkd : w 7 (2 + k) = 4) (ht : t.length + 2 ≤ 16) : MtF M_X7_dryerSize 2 [.ref 360, .int m] (mu h (asW w t)) (some (.int (w 7 (7 + k) - 100))) (mu h (asW w (t ++ [13, 10]))) := by
  subst em
  refine MtF.of [some (.ref 360), some (.int (nI k)), none, none] pl_X7 rfl rfl ?_
  refine g_aload_n d_X7_dryerSize_0 rfl ?_
  refine h_getR d_X7_dryerSize_1 fl_7_28 sp_M rfl ?_
  refine g_iconst d_X7_dryerSize_4 ik_2 ?_
  refine g_iload_n d_X7_dryerSize_5 rfl ?_
  refine g_iadd d_X7_dryerSize_6 ?_
  refine mm_aldV (k := (2 + k)) (v := 4) d_X7_dryerSize_7 (j := 7) sp_m_d rfl (by decide) (nAdd rfl rfl) (by omega) (by decide) ((asW_o (by omega) (by decide)).trans hkd) ?_
  refine g_iconst d_X7_dryerSize_8 ik_5 ?_
  refine g_icmp_ne d_X7_dryerSize_9 (fun c9 => ?_) (fun c9 => absurd c9 (by decide))
  refine g_iconst d_X7_dryerSize_16 ik_0 ?_
  refine w_istore_n (L' := [_, _, _, _]) d_X7_dryerSize_17 rfl rfl rfl ?_
  refine g_iload_n d_X7_dryerSize_18 rfl ?_
  refine g_if_eq d_X7_dryerSize_19 (fun c19 => ?_) (fun c19 => absurd c19 (by decide))
  refine g_aload_n d_X7_dryerSize_28 rfl ?_
  refine g_bipush d_X7_dryerSize_29 bk_13 ?_
  refine h_V1v d_X7_dryerSize_31 cl_7_267 (m7_leaves (by simp; omega)) sp_M (by decide) rfl (Nat.le_of_ble_eq_true rfl) (by decide) ?_
  refine g_aload_n d_X7_dryerSize_34 rfl ?_
  refine g_iload_n d_X7_dryerSize_35 rfl ?_
  refine h_V1i d_X7_dryerSize_36 cl_7_273 (m7_lentRoom hk rfl (by simp; omega)) sp_M (by decide) rfl (Nat.le_of_ble_eq_true rfl) (by decide) ?_
  refine g_bipush d_X7_dryerSize_39 bk_100 ?_
  refine g_isub d_X7_dryerSize_41 ?_
  refine w_istore_n (L' := [_, _, _, _]) d_X7_dryerSize_42 rfl rfl rfl ?_
  refine g_iload_n d_X7_dryerSize_43 rfl ?_
  refine g_if_eq d_X7_dryerSize_44 (fun c44 => ?_) (fun c44 => absurd c44 (by decide))
  refine g_iload_n d_X7_dryerSize_53 rfl ?_
  refine h_iret d_X7_dryerSize_54 rfl ?_
  exact pF rfl (by simp [List.append_assoc])
theorem m7_dryerSize_5 {h w : Hv} {t : List Int32} {k : Nat} (hk : k < 5) {m : Int32} (em : m = nI k) (hkd : w 7 (2 + k) = 5) (ht : t.length + 3 ≤ 16) : MtF M_X7_dryerSize 2 [.ref 360, .int m] (mu h (asW w t)) (some (.int (2 * (w 7 (7 + k) - 100)))) (mu h (asW w (t ++ [14, 13, 10]))) := by
  subst em
  refine MtF.of [some (.ref 360), some (.int (nI k)), none, none] pl_X7 rfl rfl ?_
  refine g_aload_n d_X7_dryerSize_0 rfl ?_
  refine h_getR d_X7_dryerSize_1 fl_7_28 sp_M rfl ?_
  refine g_iconst d_X7_dryerSize_4 ik_2 ?_
  refine g_iload_n d_X7_dryerSize_5 rfl ?_
  refine g_iadd d_X7_dryerSize_6 ?_
  refine mm_aldV (k := (2 + k)) (v := 5) d_X7_dryerSize_7 (j := 7) sp_m_d rfl (by decide) (nAdd rfl rfl) (by omega) (by decide) ((asW_o (by omega) (by decide)).trans hkd) ?_
  refine g_iconst d_X7_dryerSize_8 ik_5 ?_
  refine g_icmp_ne d_X7_dryerSize_9 (fun c9 => absurd c9 (by decide)) (fun c9 => ?_)
  refine g_iconst d_X7_dryerSize_12 ik_1 ?_
  refine g_goto d_X7_dryerSize_13 ?_
  refine w_istore_n (L' := [_, _, _, _]) d_X7_dryerSize_17 rfl rfl rfl ?_
  refine g_iload_n d_X7_dryerSize_18 rfl ?_
  refine g_if_eq d_X7_dryerSize_19 (fun c19 => absurd c19 (by decide)) (fun c19 => ?_)
  refine g_aload_n d_X7_dryerSize_22 rfl ?_
  refine g_bipush d_X7_dryerSize_23 bk_14 ?_
  refine h_V1v d_X7_dryerSize_25 cl_7_267 (m7_leaves (by simp; omega)) sp_M (by decide) rfl (Nat.le_of_ble_eq_true rfl) (by decide) ?_
  refine g_aload_n d_X7_dryerSize_28 rfl ?_
  refine g_bipush d_X7_dryerSize_29 bk_13 ?_
  refine h_V1v d_X7_dryerSize_31 cl_7_267 (m7_leaves (by simp; omega)) sp_M (by decide) rfl (Nat.le_of_ble_eq_true rfl) (by decide) ?_
  refine g_aload_n d_X7_dryerSize_34 rfl ?_
  refine g_iload_n d_X7_dryerSize_35 rfl ?_
  refine h_V1i d_X7_dryerSize_36 cl_7_273 (m7_lentRoom hk rfl (by simp; omega)) sp_M (by decide) rfl (Nat.le_of_ble_eq_true rfl) (by decide) ?_
  refine g_bipush d_X7_dryerSize_39 bk_100 ?_
  refine g_isub d_X7_dryerSize_41 ?_
  refine w_istore_n (L' := [_, _, _, _]) d_X7_dryerSize_42 rfl rfl rfl ?_
  refine g_iload_n d_X7_dryerSize_43 rfl ?_
  refine g_if_eq d_X7_dryerSize_44 (fun c44 => absurd c44 (by decide)) (fun c44 => ?_)
  refine g_iconst d_X7_dryerSize_47 ik_2 ?_
  refine g_iload_n d_X7_dryerSize_48 rfl ?_
  refine g_imul d_X7_dryerSize_49 ?_
  refine g_goto d_X7_dryerSize_50 ?_
  refine h_iret d_X7_dryerSize_54 rfl ?_
  exact pF rfl (by simp [List.append_assoc])
theorem m7_dryerMark_4 {h w : Hv} {t : List Int32} {k : Nat} (hk : k < 5) {m : Int32} (em : m = nI k) (hkd : w 7 (2 + k) = 4) (ht : t.length + 4 ≤ 16) : MtF M_X7_dryerMark 3 [.ref 360, .int m] (mu h (asW w t)) (some (.int (nI k - (w 7 (7 + k) - 100)))) (mu h (asW w (t ++ [23, 20, 13, 10]))) := by
  subst em
  refine MtF.of [some (.ref 360), some (.int (nI k)), none] pl_X7 rfl rfl ?_
  refine g_aload_n d_X7_dryerMark_0 rfl ?_
  refine g_bipush d_X7_dryerMark_1 bk_23 ?_
  refine h_V1v d_X7_dryerMark_3 cl_7_267 (m7_leaves (by simp; omega)) sp_M (by decide) rfl (Nat.le_of_ble_eq_true rfl) (by decide) ?_
  refine g_aload_n d_X7_dryerMark_6 rfl ?_
  refine g_iload_n d_X7_dryerMark_7 rfl ?_
  refine h_V1i d_X7_dryerMark_8 cl_7_270 (m7_lentNumber hk rfl (by simp; omega)) sp_M (by decide) rfl (Nat.le_of_ble_eq_true rfl) (by decide) ?_
  refine w_istore_n (L' := [_, _, _]) d_X7_dryerMark_11 rfl rfl rfl ?_
  refine g_iload_n d_X7_dryerMark_12 rfl ?_
  refine g_aload_n d_X7_dryerMark_13 rfl ?_
  refine g_iload_n d_X7_dryerMark_14 rfl ?_
  refine h_V1i d_X7_dryerMark_15 cl_7_279 (m7_dryerSize_4 hk rfl hkd (by simp; omega)) sp_M (by decide) rfl (Nat.le_of_ble_eq_true rfl) (by decide) ?_
  refine g_isub d_X7_dryerMark_18 ?_
  refine h_iret d_X7_dryerMark_19 rfl ?_
  exact pF rfl (by simp [List.append_assoc])
theorem m7_dryerMark_5 {h w : Hv} {t : List Int32} {k : Nat} (hk : k < 5) {m : Int32} (em : m = nI k) (hkd : w 7 (2 + k) = 5) (ht : t.length + 5 ≤ 16) : MtF M_X7_dryerMark 3 [.ref 360, .int m] (mu h (asW w t)) (some (.int (nI k - (2 * (w 7 (7 + k) - 100))))) (mu h (asW w (t ++ [23, 20, 14, 13, 10]))) := by
  subst em
  refine MtF.of [some (.ref 360), some (.int (nI k)), none] pl_X7 rfl rfl ?_
  refine g_aload_n d_X7_dryerMark_0 rfl ?_
  refine g_bipush d_X7_dryerMark_1 bk_23 ?_
  refine h_V1v d_X7_dryerMark_3 cl_7_267 (m7_leaves (by simp; omega)) sp_M (by decide) rfl (Nat.le_of_ble_eq_true rfl) (by decide) ?_
  refine g_aload_n d_X7_dryerMark_6 rfl ?_
  refine g_iload_n d_X7_dryerMark_7 rfl ?_
  refine h_V1i d_X7_dryerMark_8 cl_7_270 (m7_lentNumber hk rfl (by simp; omega)) sp_M (by decide) rfl (Nat.le_of_ble_eq_true rfl) (by decide) ?_
  refine w_istore_n (L' := [_, _, _]) d_X7_dryerMark_11 rfl rfl rfl ?_
  refine g_iload_n d_X7_dryerMark_12 rfl ?_
  refine g_aload_n d_X7_dryerMark_13 rfl ?_
  refine g_iload_n d_X7_dryerMark_14 rfl ?_
  refine h_V1i d_X7_dryerMark_15 cl_7_279 (m7_dryerSize_5 hk rfl hkd (by simp; omega)) sp_M (by decide) rfl (Nat.le_of_ble_eq_true rfl) (by decide) ?_
  refine g_isub d_X7_dryerMark_18 ?_
  refine h_iret d_X7_dryerMark_19 rfl ?_
  exact pF rfl (by simp [List.append_assoc])
theorem p_begin_0_1 {h w : Hv} {k : Nat} (hk : k < 5) {m : Int32} (em : m = nI k) (hkd : h 16 k = 1) : MtF M_X1_begin 7 [.ref 333, .ref 15, .int m, .int 0] (mu h w) (some (.int (h 17 k + (nI k + h 21 k)))) (mu (asH h [11, 10, 21, 20]) w) := by
  have q := m_begin_0_1 (h := mu h w) hk em ((mu_low (by decide)).trans hkd)
  simp only [mu_low (show 17 < 360 by decide), mu_low (show 21 < 360 by decide), asH_mu] at q
  exact q
theorem p_begin_0_2 {h w : Hv} {k : Nat} (hk : k < 5) {m : Int32} (em : m = nI k) (hkd : h 16 k = 2) : MtF M_X1_begin 7 [.ref 333, .ref 15, .int m, .int 0] (mu h w) (some (.int (-(h 17 k + ((nI k + h 21 k) * 2))))) (mu (asH h [12, 11, 10, 24, 21, 20]) w) := by
  have q := m_begin_0_2 (h := mu h w) hk em ((mu_low (by decide)).trans hkd)
  simp only [mu_low (show 17 < 360 by decide), mu_low (show 21 < 360 by decide), asH_mu] at q
  exact q
theorem p_begin_0_3 {h w : Hv} {k : Nat} (hk : k < 5) {m : Int32} (em : m = nI k) (hkd : h 16 k = 3) : MtF M_X1_begin 7 [.ref 333, .ref 15, .int m, .int 0] (mu h w) (some (.int (h 17 k + (nI k + h 21 k - 1000)))) (mu (asH h [11, 10, 22, 21, 20]) w) := by
  have q := m_begin_0_3 (h := mu h w) hk em ((mu_low (by decide)).trans hkd)
  simp only [mu_low (show 17 < 360 by decide), mu_low (show 21 < 360 by decide), asH_mu] at q
  exact q
theorem p_begin_0_4 {h w : Hv} {k : Nat} (hk : k < 5) {m : Int32} (em : m = nI k) (hkd : h 16 k = 4) : MtF M_X1_begin 7 [.ref 333, .ref 15, .int m, .int 0] (mu h w) (some (.int (h 17 k - 100))) (mu (asH h [13, 10]) w) := by
  have q := m_begin_0_4 (h := mu h w) hk em ((mu_low (by decide)).trans hkd)
  simp only [mu_low (show 17 < 360 by decide), mu_low (show 21 < 360 by decide), asH_mu] at q
  exact q
theorem p_begin_0_5 {h w : Hv} {k : Nat} (hk : k < 5) {m : Int32} (em : m = nI k) (hkd : h 16 k = 5) : MtF M_X1_begin 7 [.ref 333, .ref 15, .int m, .int 0] (mu h w) (some (.int ((h 17 k - 100) * 2))) (mu (asH h [14, 13, 10]) w) := by
  have q := m_begin_0_5 (h := mu h w) hk em ((mu_low (by decide)).trans hkd)
  simp only [mu_low (show 17 < 360 by decide), mu_low (show 21 < 360 by decide), asH_mu] at q
  exact q
theorem p_begin_1_1 {h w : Hv} {k : Nat} (hk : k < 5) {m : Int32} (em : m = nI k) (hkd : h 16 k = 1) : MtF M_X1_begin 7 [.ref 333, .ref 15, .int m, .int 1] (mu h w) (some (.int (nI k + h 21 k))) (mu (asH h [21, 20]) w) := by
  have q := m_begin_1_1 (h := mu h w) hk em ((mu_low (by decide)).trans hkd)
  simp only [mu_low (show 17 < 360 by decide), mu_low (show 21 < 360 by decide), asH_mu] at q
  exact q
theorem p_begin_1_2 {h w : Hv} {k : Nat} (hk : k < 5) {m : Int32} (em : m = nI k) (hkd : h 16 k = 2) : MtF M_X1_begin 7 [.ref 333, .ref 15, .int m, .int 1] (mu h w) (some (.int ((nI k + h 21 k) * 2))) (mu (asH h [24, 21, 20]) w) := by
  have q := m_begin_1_2 (h := mu h w) hk em ((mu_low (by decide)).trans hkd)
  simp only [mu_low (show 17 < 360 by decide), mu_low (show 21 < 360 by decide), asH_mu] at q
  exact q
theorem p_begin_1_3 {h w : Hv} {k : Nat} (hk : k < 5) {m : Int32} (em : m = nI k) (hkd : h 16 k = 3) : MtF M_X1_begin 7 [.ref 333, .ref 15, .int m, .int 1] (mu h w) (some (.int (nI k + h 21 k - 1000))) (mu (asH h [22, 21, 20]) w) := by
  have q := m_begin_1_3 (h := mu h w) hk em ((mu_low (by decide)).trans hkd)
  simp only [mu_low (show 17 < 360 by decide), mu_low (show 21 < 360 by decide), asH_mu] at q
  exact q
theorem p_begin_1_4 {h w : Hv} {k : Nat} (hk : k < 5) {m : Int32} (em : m = nI k) (hkd : h 16 k = 4) : MtF M_X1_begin 7 [.ref 333, .ref 15, .int m, .int 1] (mu h w) (some (.int (nI k - (h 17 k - 100)))) (mu (asH h [23, 20, 13, 10]) w) := by
  have q := m_begin_1_4 (h := mu h w) hk em ((mu_low (by decide)).trans hkd)
  simp only [mu_low (show 17 < 360 by decide), mu_low (show 21 < 360 by decide), asH_mu] at q
  exact q
theorem p_begin_1_5 {h w : Hv} {k : Nat} (hk : k < 5) {m : Int32} (em : m = nI k) (hkd : h 16 k = 5) : MtF M_X1_begin 7 [.ref 333, .ref 15, .int m, .int 1] (mu h w) (some (.int (nI k - ((h 17 k - 100) * 2)))) (mu (asH h [23, 20, 14, 13, 10]) w) := by
  have q := m_begin_1_5 (h := mu h w) hk em ((mu_low (by decide)).trans hkd)
  simp only [mu_low (show 17 < 360 by decide), mu_low (show 21 < 360 by decide), asH_mu] at q
  exact q
theorem op_ask {h w : Hv} (hR : RelP h w) {x y : Int32} : OPI M_X6_ask M_X7_ask 8 4 [.int x, .int y] (mu h w) := by
  obtain ⟨M, N, hM5, hN6, gM, wM, gN, wN, hZ⟩ := hR.mn
  have eM : (nI M).toInt = M := nI_toInt (by omega)
  have eN : (nI N).toInt = N := nI_toInt (by omega)
  have eM1 := nI_predI (t := M) (by omega)
  have eN1 := nI_predI (t := N) (by omega)
  refine MtH.of [some (.ref 0), some (.int x), some (.int y)] pl_X6 rfl rfl ?_
  refine g_aload_n d_X6_ask_0 rfl ?_
  refine h_getR d_X6_ask_1 fl_6_26 sp_L rfl ?_
  refine g_iload_n d_X6_ask_4 rfl ?_
  refine h_V1i d_X6_ask_5 cl_6_170 p_hasMachine (sp_hall hall_15) (by decide) rfl (Nat.le_of_ble_eq_true rfl) (by decide) ?_
  refine g_if_eq d_X6_ask_8 (fun c8 => ?_) (fun c8 => ?_)
  · refine g_ldc d_X6_ask_20 kc_X6_66 ?_
    refine h_iret d_X6_ask_22 rfl ?_
    refine ⟨_, rfl, ?_⟩
    refine MtH.of [some (.ref 360), some (.int x), some (.int y), none] pl_X7 rfl rfl ?_
    refine g_aload_n d_X7_ask_0 rfl ?_
    refine g_iconst d_X7_ask_1 ik_0 ?_
    refine mm_putI d_X7_ask_2 fl_7_62 sp_M rfl ?_
    refine g_aload_n d_X7_ask_5 rfl ?_
    refine g_iload_n d_X7_ask_6 rfl ?_
    refine h_V1i d_X7_ask_7 cl_7_201 (m7_isMachine ((hs_j (by decide)).trans wM)) sp_M (by decide) rfl (Nat.le_of_ble_eq_true rfl) (by decide) ?_
    refine g_if_eq d_X7_ask_10 (fun c10 => ?_) (fun c10 => ?_)
    · refine g_ldc d_X7_ask_22 kc_X7_78 ?_
      refine h_iret d_X7_ask_24 rfl ?_
      exact ⟨rfl, _, _, rfl, hR.fr fr_thrown⟩
    · refine g_iload_n d_X7_ask_13 rfl ?_
      refine g_iconst d_X7_ask_14 ik_0 ?_
      refine g_iconst d_X7_ask_15 ik_1 ?_
      refine h_S3i d_X7_ask_16 cl_7_70 m7_in (Nat.le_of_ble_eq_true rfl) (by decide) ?_
      refine g_if_ne d_X7_ask_19 (fun c19 => ?_) (fun c19 => ?_)
      · exfalso
        simp only [b2i_eq0, b2i_ne0, Int32.lt_iff_toInt_lt, Int32.le_iff_toInt_le, t_0, t_1, t_2, t_3, t_4, t_5, t_6, t_7, t_8, t_9, t_10, t_11, t_12, t_20, t_24, t_40, t_50, t_60, t_99, t_110, t_255, t_999, t_999999, t_m1, gM, gN, eM, eN, eM1, eN1] at *
        omega
      · refine g_ldc d_X7_ask_22 kc_X7_78 ?_
        refine h_iret d_X7_ask_24 rfl ?_
        exact ⟨rfl, _, _, rfl, hR.fr fr_thrown⟩
  · refine g_iload_n d_X6_ask_11 rfl ?_
    refine g_if_lt d_X6_ask_12 (fun c12 => ?_) (fun c12 => ?_)
    · refine g_ldc d_X6_ask_20 kc_X6_66 ?_
      refine h_iret d_X6_ask_22 rfl ?_
      refine ⟨_, rfl, ?_⟩
      refine MtH.of [some (.ref 360), some (.int x), some (.int y), none] pl_X7 rfl rfl ?_
      refine g_aload_n d_X7_ask_0 rfl ?_
      refine g_iconst d_X7_ask_1 ik_0 ?_
      refine mm_putI d_X7_ask_2 fl_7_62 sp_M rfl ?_
      refine g_aload_n d_X7_ask_5 rfl ?_
      refine g_iload_n d_X7_ask_6 rfl ?_
      refine h_V1i d_X7_ask_7 cl_7_201 (m7_isMachine ((hs_j (by decide)).trans wM)) sp_M (by decide) rfl (Nat.le_of_ble_eq_true rfl) (by decide) ?_
      refine g_if_eq d_X7_ask_10 (fun c10 => ?_) (fun c10 => ?_)
      · refine g_ldc d_X7_ask_22 kc_X7_78 ?_
        refine h_iret d_X7_ask_24 rfl ?_
        exact ⟨rfl, _, _, rfl, hR.fr fr_thrown⟩
      · refine g_iload_n d_X7_ask_13 rfl ?_
        refine g_iconst d_X7_ask_14 ik_0 ?_
        refine g_iconst d_X7_ask_15 ik_1 ?_
        refine h_S3i d_X7_ask_16 cl_7_70 m7_in (Nat.le_of_ble_eq_true rfl) (by decide) ?_
        refine g_if_ne d_X7_ask_19 (fun c19 => ?_) (fun c19 => ?_)
        · exfalso
          simp only [b2i_eq0, b2i_ne0, Int32.lt_iff_toInt_lt, Int32.le_iff_toInt_le, t_0, t_1, t_2, t_3, t_4, t_5, t_6, t_7, t_8, t_9, t_10, t_11, t_12, t_20, t_24, t_40, t_50, t_60, t_99, t_110, t_255, t_999, t_999999, t_m1, gM, gN, eM, eN, eM1, eN1] at *
          omega
        · refine g_ldc d_X7_ask_22 kc_X7_78 ?_
          refine h_iret d_X7_ask_24 rfl ?_
          exact ⟨rfl, _, _, rfl, hR.fr fr_thrown⟩
    · refine g_iload_n d_X6_ask_15 rfl ?_
      refine g_iconst d_X6_ask_16 ik_1 ?_
      refine g_icmp_le d_X6_ask_17 (fun c17 => ?_) (fun c17 => ?_)
      · obtain ⟨r, hr, rfl⟩ := rngI (x := x) (B := M) (by simp only [b2i_eq0, b2i_ne0, Int32.lt_iff_toInt_lt, Int32.le_iff_toInt_le, t_0, t_1, t_2, t_3, t_4, t_5, t_6, t_7, t_8, t_9, t_10, t_11, t_12, t_20, t_24, t_40, t_50, t_60, t_99, t_110, t_255, t_999, t_999999, t_m1, gM, gN, eM, eN, eM1, eN1] at *; omega) (by simp only [b2i_eq0, b2i_ne0, Int32.lt_iff_toInt_lt, Int32.le_iff_toInt_le, t_0, t_1, t_2, t_3, t_4, t_5, t_6, t_7, t_8, t_9, t_10, t_11, t_12, t_20, t_24, t_40, t_50, t_60, t_99, t_110, t_255, t_999, t_999999, t_m1, gM, gN, eM, eN, eM1, eN1] at *; omega)
        have er : (nI r).toInt = r := nI_toInt (by omega)
        obtain ⟨i0, c0, hi0, hi1, hS, hA, hO⟩ := (hZ.resolve_left (fun z => by have := z.1; have := z.2.1; omega)).2.2
        have hI := hS.1
        obtain ⟨a, ha, rfl⟩ := rngI (x := y) (B := 2) (by simp only [b2i_eq0, b2i_ne0, Int32.lt_iff_toInt_lt, Int32.le_iff_toInt_le, t_0, t_1, t_2, t_3, t_4, t_5, t_6, t_7, t_8, t_9, t_10, t_11, t_12, t_20, t_24, t_40, t_50, t_60, t_99, t_110, t_255, t_999, t_999999, t_m1, er, gM, gN, eM, eN, eM1, eN1] at *; omega) (by simp only [b2i_eq0, b2i_ne0, Int32.lt_iff_toInt_lt, Int32.le_iff_toInt_le, t_0, t_1, t_2, t_3, t_4, t_5, t_6, t_7, t_8, t_9, t_10, t_11, t_12, t_20, t_24, t_40, t_50, t_60, t_99, t_110, t_255, t_999, t_999999, t_m1, er, gM, gN, eM, eN, eM1, eN1] at *; omega)
        have ea : (nI a).toInt = a := nI_toInt (by omega)
        obtain ⟨q, b, c, d, hq1, hq5, eq, -⟩ := hI.mach r hr
        have hq : q = 1 ∨ q = 2 ∨ q = 3 ∨ q = 4 ∨ q = 5 := by omega
        rcases (show a = 0 ∨ a = 1 by omega) with rfl | rfl
        · rcases hq with rfl | rfl | rfl | rfl | rfl
          · refine g_aload_n d_X6_ask_23 rfl ?_
            refine h_getR d_X6_ask_24 fl_6_54 sp_L rfl ?_
            refine g_aload_n d_X6_ask_27 rfl ?_
            refine h_getR d_X6_ask_28 fl_6_26 sp_L rfl ?_
            refine g_iload_n d_X6_ask_31 rfl ?_
            refine g_iload_n d_X6_ask_32 rfl ?_
            refine h_V3i d_X6_ask_33 cl_6_345 (p_begin_0_1 (by omega) rfl ((hv_at (by decide)).symm.trans eq)) sp_Asks (by decide) rfl (Nat.le_of_ble_eq_true rfl) (by decide) ?_
            refine h_iret d_X6_ask_36 rfl ?_
            refine ⟨_, rfl, ?_⟩
            have hkd2 : hset w 0 0 0 7 (2 + r) = 1 := (hs_j (by decide)).trans ((hS.2.1.2.1 r hr).1.symm.trans eq)
            have e17 : hset w 0 0 0 7 (7 + r) = h 17 r := ((hs_j (by decide)).trans (hS.2.1.2.1 r hr).2.1.symm).trans (hv_at (by decide))
            have e21 : hset w 0 0 0 8 (13 + r) = h 21 r := ((hs_j (by decide)).trans (hS.2.1.2.1 r hr).2.2.2.2.2.symm).trans (hv_at (by decide))
            refine MtH.of [some (.ref 360), some (.int (nI r)), some (.int 0), none] pl_X7 rfl rfl ?_
            refine g_aload_n d_X7_ask_0 rfl ?_
            refine g_iconst d_X7_ask_1 ik_0 ?_
            refine mm_putI d_X7_ask_2 fl_7_62 sp_M rfl ?_
            refine g_aload_n d_X7_ask_5 rfl ?_
            refine g_iload_n d_X7_ask_6 rfl ?_
            refine h_V1i d_X7_ask_7 cl_7_201 (m7_isMachine ((hs_j (by decide)).trans wM)) sp_M (by decide) rfl (Nat.le_of_ble_eq_true rfl) (by decide) ?_
            refine g_if_eq d_X7_ask_10 (fun c10 => ?_) (fun c10 => ?_)
            · exfalso
              simp only [b2i_eq0, b2i_ne0, Int32.lt_iff_toInt_lt, Int32.le_iff_toInt_le, t_0, t_1, t_2, t_3, t_4, t_5, t_6, t_7, t_8, t_9, t_10, t_11, t_12, t_20, t_24, t_40, t_50, t_60, t_99, t_110, t_255, t_999, t_999999, t_m1, er, gM, gN, eM, eN, eM1, eN1] at *
              omega
            · refine g_iload_n d_X7_ask_13 rfl ?_
              refine g_iconst d_X7_ask_14 ik_0 ?_
              refine g_iconst d_X7_ask_15 ik_1 ?_
              refine h_S3i d_X7_ask_16 cl_7_70 m7_in (Nat.le_of_ble_eq_true rfl) (by decide) ?_
              refine g_if_ne d_X7_ask_19 (fun c19 => ?_) (fun c19 => absurd c19 (by decide))
              refine g_aload_n d_X7_ask_25 rfl ?_
              refine g_iconst d_X7_ask_26 ik_0 ?_
              refine mm_putI d_X7_ask_27 fl_7_264 sp_M rfl ?_
              rw [asW_0]
              refine g_aload_n d_X7_ask_30 rfl ?_
              refine h_getR d_X7_ask_31 fl_7_28 sp_M rfl ?_
              refine g_iconst d_X7_ask_34 ik_2 ?_
              refine g_iload_n d_X7_ask_35 rfl ?_
              refine g_iadd d_X7_ask_36 ?_
              refine mm_aldV (k := (2 + r)) (v := 1) d_X7_ask_37 (j := 7) sp_m_d rfl (by decide) (nAdd rfl rfl) (by omega) (by decide) ((asW_o (by omega) (by decide)).trans hkd2) ?_
              refine h_S1i d_X7_ask_38 cl_7_152 m7_washes (Nat.le_of_ble_eq_true rfl) (by decide) ?_
              refine w_istore_n (L' := [_, _, _, _]) d_X7_ask_41 rfl rfl rfl ?_
              refine g_iload_n d_X7_ask_42 rfl ?_
              refine g_if_ne d_X7_ask_43 (fun c43 => absurd c43 (by decide)) (fun c43 => ?_)
              refine g_iload_n d_X7_ask_46 rfl ?_
              refine g_if_eq d_X7_ask_47 (fun c47 => absurd c47 (by decide)) (fun c47 => ?_)
              refine g_aload_n d_X7_ask_50 rfl ?_
              refine g_iload_n d_X7_ask_51 rfl ?_
              refine h_V1i d_X7_ask_52 cl_7_282 (m7_washerSize_1 (t := []) (by omega) rfl hkd2 (by simp)) sp_M (by decide) rfl (Nat.le_of_ble_eq_true rfl) (by decide) ?_
              refine g_goto d_X7_ask_55 ?_
              refine h_iret d_X7_ask_83 rfl ?_
              refine ⟨?_, _, _, rfl, hR.asked (by decide)⟩
              try rw [e21]
              try rw [e17]
              try rw [Int32.mul_comm 2]
          · refine g_aload_n d_X6_ask_23 rfl ?_
            refine h_getR d_X6_ask_24 fl_6_54 sp_L rfl ?_
            refine g_aload_n d_X6_ask_27 rfl ?_
            refine h_getR d_X6_ask_28 fl_6_26 sp_L rfl ?_
            refine g_iload_n d_X6_ask_31 rfl ?_
            refine g_iload_n d_X6_ask_32 rfl ?_
            refine h_V3i d_X6_ask_33 cl_6_345 (p_begin_0_2 (by omega) rfl ((hv_at (by decide)).symm.trans eq)) sp_Asks (by decide) rfl (Nat.le_of_ble_eq_true rfl) (by decide) ?_
            refine h_iret d_X6_ask_36 rfl ?_
            refine ⟨_, rfl, ?_⟩
            have hkd2 : hset w 0 0 0 7 (2 + r) = 2 := (hs_j (by decide)).trans ((hS.2.1.2.1 r hr).1.symm.trans eq)
            have e17 : hset w 0 0 0 7 (7 + r) = h 17 r := ((hs_j (by decide)).trans (hS.2.1.2.1 r hr).2.1.symm).trans (hv_at (by decide))
            have e21 : hset w 0 0 0 8 (13 + r) = h 21 r := ((hs_j (by decide)).trans (hS.2.1.2.1 r hr).2.2.2.2.2.symm).trans (hv_at (by decide))
            refine MtH.of [some (.ref 360), some (.int (nI r)), some (.int 0), none] pl_X7 rfl rfl ?_
            refine g_aload_n d_X7_ask_0 rfl ?_
            refine g_iconst d_X7_ask_1 ik_0 ?_
            refine mm_putI d_X7_ask_2 fl_7_62 sp_M rfl ?_
            refine g_aload_n d_X7_ask_5 rfl ?_
            refine g_iload_n d_X7_ask_6 rfl ?_
            refine h_V1i d_X7_ask_7 cl_7_201 (m7_isMachine ((hs_j (by decide)).trans wM)) sp_M (by decide) rfl (Nat.le_of_ble_eq_true rfl) (by decide) ?_
            refine g_if_eq d_X7_ask_10 (fun c10 => ?_) (fun c10 => ?_)
            · exfalso
              simp only [b2i_eq0, b2i_ne0, Int32.lt_iff_toInt_lt, Int32.le_iff_toInt_le, t_0, t_1, t_2, t_3, t_4, t_5, t_6, t_7, t_8, t_9, t_10, t_11, t_12, t_20, t_24, t_40, t_50, t_60, t_99, t_110, t_255, t_999, t_999999, t_m1, er, gM, gN, eM, eN, eM1, eN1] at *
              omega
            · refine g_iload_n d_X7_ask_13 rfl ?_
              refine g_iconst d_X7_ask_14 ik_0 ?_
              refine g_iconst d_X7_ask_15 ik_1 ?_
              refine h_S3i d_X7_ask_16 cl_7_70 m7_in (Nat.le_of_ble_eq_true rfl) (by decide) ?_
              refine g_if_ne d_X7_ask_19 (fun c19 => ?_) (fun c19 => absurd c19 (by decide))
              refine g_aload_n d_X7_ask_25 rfl ?_
              refine g_iconst d_X7_ask_26 ik_0 ?_
              refine mm_putI d_X7_ask_27 fl_7_264 sp_M rfl ?_
              rw [asW_0]
              refine g_aload_n d_X7_ask_30 rfl ?_
              refine h_getR d_X7_ask_31 fl_7_28 sp_M rfl ?_
              refine g_iconst d_X7_ask_34 ik_2 ?_
              refine g_iload_n d_X7_ask_35 rfl ?_
              refine g_iadd d_X7_ask_36 ?_
              refine mm_aldV (k := (2 + r)) (v := 2) d_X7_ask_37 (j := 7) sp_m_d rfl (by decide) (nAdd rfl rfl) (by omega) (by decide) ((asW_o (by omega) (by decide)).trans hkd2) ?_
              refine h_S1i d_X7_ask_38 cl_7_152 m7_washes (Nat.le_of_ble_eq_true rfl) (by decide) ?_
              refine w_istore_n (L' := [_, _, _, _]) d_X7_ask_41 rfl rfl rfl ?_
              refine g_iload_n d_X7_ask_42 rfl ?_
              refine g_if_ne d_X7_ask_43 (fun c43 => absurd c43 (by decide)) (fun c43 => ?_)
              refine g_iload_n d_X7_ask_46 rfl ?_
              refine g_if_eq d_X7_ask_47 (fun c47 => absurd c47 (by decide)) (fun c47 => ?_)
              refine g_aload_n d_X7_ask_50 rfl ?_
              refine g_iload_n d_X7_ask_51 rfl ?_
              refine h_V1i d_X7_ask_52 cl_7_282 (m7_washerSize_2 (t := []) (by omega) rfl hkd2 (by simp)) sp_M (by decide) rfl (Nat.le_of_ble_eq_true rfl) (by decide) ?_
              refine g_goto d_X7_ask_55 ?_
              refine h_iret d_X7_ask_83 rfl ?_
              refine ⟨?_, _, _, rfl, hR.asked (by decide)⟩
              try rw [e21]
              try rw [e17]
              try rw [Int32.mul_comm 2]
          · refine g_aload_n d_X6_ask_23 rfl ?_
            refine h_getR d_X6_ask_24 fl_6_54 sp_L rfl ?_
            refine g_aload_n d_X6_ask_27 rfl ?_
            refine h_getR d_X6_ask_28 fl_6_26 sp_L rfl ?_
            refine g_iload_n d_X6_ask_31 rfl ?_
            refine g_iload_n d_X6_ask_32 rfl ?_
            refine h_V3i d_X6_ask_33 cl_6_345 (p_begin_0_3 (by omega) rfl ((hv_at (by decide)).symm.trans eq)) sp_Asks (by decide) rfl (Nat.le_of_ble_eq_true rfl) (by decide) ?_
            refine h_iret d_X6_ask_36 rfl ?_
            refine ⟨_, rfl, ?_⟩
            have hkd2 : hset w 0 0 0 7 (2 + r) = 3 := (hs_j (by decide)).trans ((hS.2.1.2.1 r hr).1.symm.trans eq)
            have e17 : hset w 0 0 0 7 (7 + r) = h 17 r := ((hs_j (by decide)).trans (hS.2.1.2.1 r hr).2.1.symm).trans (hv_at (by decide))
            have e21 : hset w 0 0 0 8 (13 + r) = h 21 r := ((hs_j (by decide)).trans (hS.2.1.2.1 r hr).2.2.2.2.2.symm).trans (hv_at (by decide))
            refine MtH.of [some (.ref 360), some (.int (nI r)), some (.int 0), none] pl_X7 rfl rfl ?_
            refine g_aload_n d_X7_ask_0 rfl ?_
            refine g_iconst d_X7_ask_1 ik_0 ?_
            refine mm_putI d_X7_ask_2 fl_7_62 sp_M rfl ?_
            refine g_aload_n d_X7_ask_5 rfl ?_
            refine g_iload_n d_X7_ask_6 rfl ?_
            refine h_V1i d_X7_ask_7 cl_7_201 (m7_isMachine ((hs_j (by decide)).trans wM)) sp_M (by decide) rfl (Nat.le_of_ble_eq_true rfl) (by decide) ?_
            refine g_if_eq d_X7_ask_10 (fun c10 => ?_) (fun c10 => ?_)
            · exfalso
              simp only [b2i_eq0, b2i_ne0, Int32.lt_iff_toInt_lt, Int32.le_iff_toInt_le, t_0, t_1, t_2, t_3, t_4, t_5, t_6, t_7, t_8, t_9, t_10, t_11, t_12, t_20, t_24, t_40, t_50, t_60, t_99, t_110, t_255, t_999, t_999999, t_m1, er, gM, gN, eM, eN, eM1, eN1] at *
              omega
            · refine g_iload_n d_X7_ask_13 rfl ?_
              refine g_iconst d_X7_ask_14 ik_0 ?_
              refine g_iconst d_X7_ask_15 ik_1 ?_
              refine h_S3i d_X7_ask_16 cl_7_70 m7_in (Nat.le_of_ble_eq_true rfl) (by decide) ?_
              refine g_if_ne d_X7_ask_19 (fun c19 => ?_) (fun c19 => absurd c19 (by decide))
              refine g_aload_n d_X7_ask_25 rfl ?_
              refine g_iconst d_X7_ask_26 ik_0 ?_
              refine mm_putI d_X7_ask_27 fl_7_264 sp_M rfl ?_
              rw [asW_0]
              refine g_aload_n d_X7_ask_30 rfl ?_
              refine h_getR d_X7_ask_31 fl_7_28 sp_M rfl ?_
              refine g_iconst d_X7_ask_34 ik_2 ?_
              refine g_iload_n d_X7_ask_35 rfl ?_
              refine g_iadd d_X7_ask_36 ?_
              refine mm_aldV (k := (2 + r)) (v := 3) d_X7_ask_37 (j := 7) sp_m_d rfl (by decide) (nAdd rfl rfl) (by omega) (by decide) ((asW_o (by omega) (by decide)).trans hkd2) ?_
              refine h_S1i d_X7_ask_38 cl_7_152 m7_washes (Nat.le_of_ble_eq_true rfl) (by decide) ?_
              refine w_istore_n (L' := [_, _, _, _]) d_X7_ask_41 rfl rfl rfl ?_
              refine g_iload_n d_X7_ask_42 rfl ?_
              refine g_if_ne d_X7_ask_43 (fun c43 => absurd c43 (by decide)) (fun c43 => ?_)
              refine g_iload_n d_X7_ask_46 rfl ?_
              refine g_if_eq d_X7_ask_47 (fun c47 => absurd c47 (by decide)) (fun c47 => ?_)
              refine g_aload_n d_X7_ask_50 rfl ?_
              refine g_iload_n d_X7_ask_51 rfl ?_
              refine h_V1i d_X7_ask_52 cl_7_282 (m7_washerSize_3 (t := []) (by omega) rfl hkd2 (by simp)) sp_M (by decide) rfl (Nat.le_of_ble_eq_true rfl) (by decide) ?_
              refine g_goto d_X7_ask_55 ?_
              refine h_iret d_X7_ask_83 rfl ?_
              refine ⟨?_, _, _, rfl, hR.asked (by decide)⟩
              try rw [e21]
              try rw [e17]
              try rw [Int32.mul_comm 2]
          · refine g_aload_n d_X6_ask_23 rfl ?_
            refine h_getR d_X6_ask_24 fl_6_54 sp_L rfl ?_
            refine g_aload_n d_X6_ask_27 rfl ?_
            refine h_getR d_X6_ask_28 fl_6_26 sp_L rfl ?_
            refine g_iload_n d_X6_ask_31 rfl ?_
            refine g_iload_n d_X6_ask_32 rfl ?_
            refine h_V3i d_X6_ask_33 cl_6_345 (p_begin_0_4 (by omega) rfl ((hv_at (by decide)).symm.trans eq)) sp_Asks (by decide) rfl (Nat.le_of_ble_eq_true rfl) (by decide) ?_
            refine h_iret d_X6_ask_36 rfl ?_
            refine ⟨_, rfl, ?_⟩
            have hkd2 : hset w 0 0 0 7 (2 + r) = 4 := (hs_j (by decide)).trans ((hS.2.1.2.1 r hr).1.symm.trans eq)
            have e17 : hset w 0 0 0 7 (7 + r) = h 17 r := ((hs_j (by decide)).trans (hS.2.1.2.1 r hr).2.1.symm).trans (hv_at (by decide))
            have e21 : hset w 0 0 0 8 (13 + r) = h 21 r := ((hs_j (by decide)).trans (hS.2.1.2.1 r hr).2.2.2.2.2.symm).trans (hv_at (by decide))
            refine MtH.of [some (.ref 360), some (.int (nI r)), some (.int 0), none] pl_X7 rfl rfl ?_
            refine g_aload_n d_X7_ask_0 rfl ?_
            refine g_iconst d_X7_ask_1 ik_0 ?_
            refine mm_putI d_X7_ask_2 fl_7_62 sp_M rfl ?_
            refine g_aload_n d_X7_ask_5 rfl ?_
            refine g_iload_n d_X7_ask_6 rfl ?_
            refine h_V1i d_X7_ask_7 cl_7_201 (m7_isMachine ((hs_j (by decide)).trans wM)) sp_M (by decide) rfl (Nat.le_of_ble_eq_true rfl) (by decide) ?_
            refine g_if_eq d_X7_ask_10 (fun c10 => ?_) (fun c10 => ?_)
            · exfalso
              simp only [b2i_eq0, b2i_ne0, Int32.lt_iff_toInt_lt, Int32.le_iff_toInt_le, t_0, t_1, t_2, t_3, t_4, t_5, t_6, t_7, t_8, t_9, t_10, t_11, t_12, t_20, t_24, t_40, t_50, t_60, t_99, t_110, t_255, t_999, t_999999, t_m1, er, gM, gN, eM, eN, eM1, eN1] at *
              omega
            · refine g_iload_n d_X7_ask_13 rfl ?_
              refine g_iconst d_X7_ask_14 ik_0 ?_
              refine g_iconst d_X7_ask_15 ik_1 ?_
              refine h_S3i d_X7_ask_16 cl_7_70 m7_in (Nat.le_of_ble_eq_true rfl) (by decide) ?_
              refine g_if_ne d_X7_ask_19 (fun c19 => ?_) (fun c19 => absurd c19 (by decide))
              refine g_aload_n d_X7_ask_25 rfl ?_
              refine g_iconst d_X7_ask_26 ik_0 ?_
              refine mm_putI d_X7_ask_27 fl_7_264 sp_M rfl ?_
              rw [asW_0]
              refine g_aload_n d_X7_ask_30 rfl ?_
              refine h_getR d_X7_ask_31 fl_7_28 sp_M rfl ?_
              refine g_iconst d_X7_ask_34 ik_2 ?_
              refine g_iload_n d_X7_ask_35 rfl ?_
              refine g_iadd d_X7_ask_36 ?_
              refine mm_aldV (k := (2 + r)) (v := 4) d_X7_ask_37 (j := 7) sp_m_d rfl (by decide) (nAdd rfl rfl) (by omega) (by decide) ((asW_o (by omega) (by decide)).trans hkd2) ?_
              refine h_S1i d_X7_ask_38 cl_7_152 m7_washes (Nat.le_of_ble_eq_true rfl) (by decide) ?_
              refine w_istore_n (L' := [_, _, _, _]) d_X7_ask_41 rfl rfl rfl ?_
              refine g_iload_n d_X7_ask_42 rfl ?_
              refine g_if_ne d_X7_ask_43 (fun c43 => absurd c43 (by decide)) (fun c43 => ?_)
              refine g_iload_n d_X7_ask_46 rfl ?_
              refine g_if_eq d_X7_ask_47 (fun c47 => ?_) (fun c47 => absurd (by decide) c47)
              refine g_aload_n d_X7_ask_58 rfl ?_
              refine g_iload_n d_X7_ask_59 rfl ?_
              refine h_V1i d_X7_ask_60 cl_7_279 (m7_dryerSize_4 (t := []) (by omega) rfl hkd2 (by simp)) sp_M (by decide) rfl (Nat.le_of_ble_eq_true rfl) (by decide) ?_
              refine g_goto d_X7_ask_63 ?_
              refine h_iret d_X7_ask_83 rfl ?_
              refine ⟨?_, _, _, rfl, hR.asked (by decide)⟩
              try rw [e21]
              try rw [e17]
              try rw [Int32.mul_comm 2]
          · refine g_aload_n d_X6_ask_23 rfl ?_
            refine h_getR d_X6_ask_24 fl_6_54 sp_L rfl ?_
            refine g_aload_n d_X6_ask_27 rfl ?_
            refine h_getR d_X6_ask_28 fl_6_26 sp_L rfl ?_
            refine g_iload_n d_X6_ask_31 rfl ?_
            refine g_iload_n d_X6_ask_32 rfl ?_
            refine h_V3i d_X6_ask_33 cl_6_345 (p_begin_0_5 (by omega) rfl ((hv_at (by decide)).symm.trans eq)) sp_Asks (by decide) rfl (Nat.le_of_ble_eq_true rfl) (by decide) ?_
            refine h_iret d_X6_ask_36 rfl ?_
            refine ⟨_, rfl, ?_⟩
            have hkd2 : hset w 0 0 0 7 (2 + r) = 5 := (hs_j (by decide)).trans ((hS.2.1.2.1 r hr).1.symm.trans eq)
            have e17 : hset w 0 0 0 7 (7 + r) = h 17 r := ((hs_j (by decide)).trans (hS.2.1.2.1 r hr).2.1.symm).trans (hv_at (by decide))
            have e21 : hset w 0 0 0 8 (13 + r) = h 21 r := ((hs_j (by decide)).trans (hS.2.1.2.1 r hr).2.2.2.2.2.symm).trans (hv_at (by decide))
            refine MtH.of [some (.ref 360), some (.int (nI r)), some (.int 0), none] pl_X7 rfl rfl ?_
            refine g_aload_n d_X7_ask_0 rfl ?_
            refine g_iconst d_X7_ask_1 ik_0 ?_
            refine mm_putI d_X7_ask_2 fl_7_62 sp_M rfl ?_
            refine g_aload_n d_X7_ask_5 rfl ?_
            refine g_iload_n d_X7_ask_6 rfl ?_
            refine h_V1i d_X7_ask_7 cl_7_201 (m7_isMachine ((hs_j (by decide)).trans wM)) sp_M (by decide) rfl (Nat.le_of_ble_eq_true rfl) (by decide) ?_
            refine g_if_eq d_X7_ask_10 (fun c10 => ?_) (fun c10 => ?_)
            · exfalso
              simp only [b2i_eq0, b2i_ne0, Int32.lt_iff_toInt_lt, Int32.le_iff_toInt_le, t_0, t_1, t_2, t_3, t_4, t_5, t_6, t_7, t_8, t_9, t_10, t_11, t_12, t_20, t_24, t_40, t_50, t_60, t_99, t_110, t_255, t_999, t_999999, t_m1, er, gM, gN, eM, eN, eM1, eN1] at *
              omega
            · refine g_iload_n d_X7_ask_13 rfl ?_
              refine g_iconst d_X7_ask_14 ik_0 ?_
              refine g_iconst d_X7_ask_15 ik_1 ?_
              refine h_S3i d_X7_ask_16 cl_7_70 m7_in (Nat.le_of_ble_eq_true rfl) (by decide) ?_
              refine g_if_ne d_X7_ask_19 (fun c19 => ?_) (fun c19 => absurd c19 (by decide))
              refine g_aload_n d_X7_ask_25 rfl ?_
              refine g_iconst d_X7_ask_26 ik_0 ?_
              refine mm_putI d_X7_ask_27 fl_7_264 sp_M rfl ?_
              rw [asW_0]
              refine g_aload_n d_X7_ask_30 rfl ?_
              refine h_getR d_X7_ask_31 fl_7_28 sp_M rfl ?_
              refine g_iconst d_X7_ask_34 ik_2 ?_
              refine g_iload_n d_X7_ask_35 rfl ?_
              refine g_iadd d_X7_ask_36 ?_
              refine mm_aldV (k := (2 + r)) (v := 5) d_X7_ask_37 (j := 7) sp_m_d rfl (by decide) (nAdd rfl rfl) (by omega) (by decide) ((asW_o (by omega) (by decide)).trans hkd2) ?_
              refine h_S1i d_X7_ask_38 cl_7_152 m7_washes (Nat.le_of_ble_eq_true rfl) (by decide) ?_
              refine w_istore_n (L' := [_, _, _, _]) d_X7_ask_41 rfl rfl rfl ?_
              refine g_iload_n d_X7_ask_42 rfl ?_
              refine g_if_ne d_X7_ask_43 (fun c43 => absurd c43 (by decide)) (fun c43 => ?_)
              refine g_iload_n d_X7_ask_46 rfl ?_
              refine g_if_eq d_X7_ask_47 (fun c47 => ?_) (fun c47 => absurd (by decide) c47)
              refine g_aload_n d_X7_ask_58 rfl ?_
              refine g_iload_n d_X7_ask_59 rfl ?_
              refine h_V1i d_X7_ask_60 cl_7_279 (m7_dryerSize_5 (t := []) (by omega) rfl hkd2 (by simp)) sp_M (by decide) rfl (Nat.le_of_ble_eq_true rfl) (by decide) ?_
              refine g_goto d_X7_ask_63 ?_
              refine h_iret d_X7_ask_83 rfl ?_
              refine ⟨?_, _, _, rfl, hR.asked (by decide)⟩
              try rw [e21]
              try rw [e17]
              try rw [Int32.mul_comm 2]
        · rcases hq with rfl | rfl | rfl | rfl | rfl
          · refine g_aload_n d_X6_ask_23 rfl ?_
            refine h_getR d_X6_ask_24 fl_6_54 sp_L rfl ?_
            refine g_aload_n d_X6_ask_27 rfl ?_
            refine h_getR d_X6_ask_28 fl_6_26 sp_L rfl ?_
            refine g_iload_n d_X6_ask_31 rfl ?_
            refine g_iload_n d_X6_ask_32 rfl ?_
            refine h_V3i d_X6_ask_33 cl_6_345 (p_begin_1_1 (by omega) rfl ((hv_at (by decide)).symm.trans eq)) sp_Asks (by decide) rfl (Nat.le_of_ble_eq_true rfl) (by decide) ?_
            refine h_iret d_X6_ask_36 rfl ?_
            refine ⟨_, rfl, ?_⟩
            have hkd2 : hset w 0 0 0 7 (2 + r) = 1 := (hs_j (by decide)).trans ((hS.2.1.2.1 r hr).1.symm.trans eq)
            have e17 : hset w 0 0 0 7 (7 + r) = h 17 r := ((hs_j (by decide)).trans (hS.2.1.2.1 r hr).2.1.symm).trans (hv_at (by decide))
            have e21 : hset w 0 0 0 8 (13 + r) = h 21 r := ((hs_j (by decide)).trans (hS.2.1.2.1 r hr).2.2.2.2.2.symm).trans (hv_at (by decide))
            refine MtH.of [some (.ref 360), some (.int (nI r)), some (.int 1), none] pl_X7 rfl rfl ?_
            refine g_aload_n d_X7_ask_0 rfl ?_
            refine g_iconst d_X7_ask_1 ik_0 ?_
            refine mm_putI d_X7_ask_2 fl_7_62 sp_M rfl ?_
            refine g_aload_n d_X7_ask_5 rfl ?_
            refine g_iload_n d_X7_ask_6 rfl ?_
            refine h_V1i d_X7_ask_7 cl_7_201 (m7_isMachine ((hs_j (by decide)).trans wM)) sp_M (by decide) rfl (Nat.le_of_ble_eq_true rfl) (by decide) ?_
            refine g_if_eq d_X7_ask_10 (fun c10 => ?_) (fun c10 => ?_)
            · exfalso
              simp only [b2i_eq0, b2i_ne0, Int32.lt_iff_toInt_lt, Int32.le_iff_toInt_le, t_0, t_1, t_2, t_3, t_4, t_5, t_6, t_7, t_8, t_9, t_10, t_11, t_12, t_20, t_24, t_40, t_50, t_60, t_99, t_110, t_255, t_999, t_999999, t_m1, er, gM, gN, eM, eN, eM1, eN1] at *
              omega
            · refine g_iload_n d_X7_ask_13 rfl ?_
              refine g_iconst d_X7_ask_14 ik_0 ?_
              refine g_iconst d_X7_ask_15 ik_1 ?_
              refine h_S3i d_X7_ask_16 cl_7_70 m7_in (Nat.le_of_ble_eq_true rfl) (by decide) ?_
              refine g_if_ne d_X7_ask_19 (fun c19 => ?_) (fun c19 => absurd c19 (by decide))
              refine g_aload_n d_X7_ask_25 rfl ?_
              refine g_iconst d_X7_ask_26 ik_0 ?_
              refine mm_putI d_X7_ask_27 fl_7_264 sp_M rfl ?_
              rw [asW_0]
              refine g_aload_n d_X7_ask_30 rfl ?_
              refine h_getR d_X7_ask_31 fl_7_28 sp_M rfl ?_
              refine g_iconst d_X7_ask_34 ik_2 ?_
              refine g_iload_n d_X7_ask_35 rfl ?_
              refine g_iadd d_X7_ask_36 ?_
              refine mm_aldV (k := (2 + r)) (v := 1) d_X7_ask_37 (j := 7) sp_m_d rfl (by decide) (nAdd rfl rfl) (by omega) (by decide) ((asW_o (by omega) (by decide)).trans hkd2) ?_
              refine h_S1i d_X7_ask_38 cl_7_152 m7_washes (Nat.le_of_ble_eq_true rfl) (by decide) ?_
              refine w_istore_n (L' := [_, _, _, _]) d_X7_ask_41 rfl rfl rfl ?_
              refine g_iload_n d_X7_ask_42 rfl ?_
              refine g_if_ne d_X7_ask_43 (fun c43 => ?_) (fun c43 => absurd c43 (by decide))
              refine g_iload_n d_X7_ask_66 rfl ?_
              refine g_if_eq d_X7_ask_67 (fun c67 => absurd c67 (by decide)) (fun c67 => ?_)
              refine g_aload_n d_X7_ask_70 rfl ?_
              refine g_iload_n d_X7_ask_71 rfl ?_
              refine h_V1i d_X7_ask_72 cl_7_276 (m7_washerMark_1 (t := []) (by omega) rfl hkd2 (by simp)) sp_M (by decide) rfl (Nat.le_of_ble_eq_true rfl) (by decide) ?_
              refine g_goto d_X7_ask_75 ?_
              refine h_iret d_X7_ask_83 rfl ?_
              refine ⟨?_, _, _, rfl, hR.asked (by decide)⟩
              try rw [e21]
              try rw [e17]
              try rw [Int32.mul_comm 2]
          · refine g_aload_n d_X6_ask_23 rfl ?_
            refine h_getR d_X6_ask_24 fl_6_54 sp_L rfl ?_
            refine g_aload_n d_X6_ask_27 rfl ?_
            refine h_getR d_X6_ask_28 fl_6_26 sp_L rfl ?_
            refine g_iload_n d_X6_ask_31 rfl ?_
            refine g_iload_n d_X6_ask_32 rfl ?_
            refine h_V3i d_X6_ask_33 cl_6_345 (p_begin_1_2 (by omega) rfl ((hv_at (by decide)).symm.trans eq)) sp_Asks (by decide) rfl (Nat.le_of_ble_eq_true rfl) (by decide) ?_
            refine h_iret d_X6_ask_36 rfl ?_
            refine ⟨_, rfl, ?_⟩
            have hkd2 : hset w 0 0 0 7 (2 + r) = 2 := (hs_j (by decide)).trans ((hS.2.1.2.1 r hr).1.symm.trans eq)
            have e17 : hset w 0 0 0 7 (7 + r) = h 17 r := ((hs_j (by decide)).trans (hS.2.1.2.1 r hr).2.1.symm).trans (hv_at (by decide))
            have e21 : hset w 0 0 0 8 (13 + r) = h 21 r := ((hs_j (by decide)).trans (hS.2.1.2.1 r hr).2.2.2.2.2.symm).trans (hv_at (by decide))
            refine MtH.of [some (.ref 360), some (.int (nI r)), some (.int 1), none] pl_X7 rfl rfl ?_
            refine g_aload_n d_X7_ask_0 rfl ?_
            refine g_iconst d_X7_ask_1 ik_0 ?_
            refine mm_putI d_X7_ask_2 fl_7_62 sp_M rfl ?_
            refine g_aload_n d_X7_ask_5 rfl ?_
            refine g_iload_n d_X7_ask_6 rfl ?_
            refine h_V1i d_X7_ask_7 cl_7_201 (m7_isMachine ((hs_j (by decide)).trans wM)) sp_M (by decide) rfl (Nat.le_of_ble_eq_true rfl) (by decide) ?_
            refine g_if_eq d_X7_ask_10 (fun c10 => ?_) (fun c10 => ?_)
            · exfalso
              simp only [b2i_eq0, b2i_ne0, Int32.lt_iff_toInt_lt, Int32.le_iff_toInt_le, t_0, t_1, t_2, t_3, t_4, t_5, t_6, t_7, t_8, t_9, t_10, t_11, t_12, t_20, t_24, t_40, t_50, t_60, t_99, t_110, t_255, t_999, t_999999, t_m1, er, gM, gN, eM, eN, eM1, eN1] at *
              omega
            · refine g_iload_n d_X7_ask_13 rfl ?_
              refine g_iconst d_X7_ask_14 ik_0 ?_
              refine g_iconst d_X7_ask_15 ik_1 ?_
              refine h_S3i d_X7_ask_16 cl_7_70 m7_in (Nat.le_of_ble_eq_true rfl) (by decide) ?_
              refine g_if_ne d_X7_ask_19 (fun c19 => ?_) (fun c19 => absurd c19 (by decide))
              refine g_aload_n d_X7_ask_25 rfl ?_
              refine g_iconst d_X7_ask_26 ik_0 ?_
              refine mm_putI d_X7_ask_27 fl_7_264 sp_M rfl ?_
              rw [asW_0]
              refine g_aload_n d_X7_ask_30 rfl ?_
              refine h_getR d_X7_ask_31 fl_7_28 sp_M rfl ?_
              refine g_iconst d_X7_ask_34 ik_2 ?_
              refine g_iload_n d_X7_ask_35 rfl ?_
              refine g_iadd d_X7_ask_36 ?_
              refine mm_aldV (k := (2 + r)) (v := 2) d_X7_ask_37 (j := 7) sp_m_d rfl (by decide) (nAdd rfl rfl) (by omega) (by decide) ((asW_o (by omega) (by decide)).trans hkd2) ?_
              refine h_S1i d_X7_ask_38 cl_7_152 m7_washes (Nat.le_of_ble_eq_true rfl) (by decide) ?_
              refine w_istore_n (L' := [_, _, _, _]) d_X7_ask_41 rfl rfl rfl ?_
              refine g_iload_n d_X7_ask_42 rfl ?_
              refine g_if_ne d_X7_ask_43 (fun c43 => ?_) (fun c43 => absurd c43 (by decide))
              refine g_iload_n d_X7_ask_66 rfl ?_
              refine g_if_eq d_X7_ask_67 (fun c67 => absurd c67 (by decide)) (fun c67 => ?_)
              refine g_aload_n d_X7_ask_70 rfl ?_
              refine g_iload_n d_X7_ask_71 rfl ?_
              refine h_V1i d_X7_ask_72 cl_7_276 (m7_washerMark_2 (t := []) (by omega) rfl hkd2 (by simp)) sp_M (by decide) rfl (Nat.le_of_ble_eq_true rfl) (by decide) ?_
              refine g_goto d_X7_ask_75 ?_
              refine h_iret d_X7_ask_83 rfl ?_
              refine ⟨?_, _, _, rfl, hR.asked (by decide)⟩
              try rw [e21]
              try rw [e17]
              try rw [Int32.mul_comm 2]
          · refine g_aload_n d_X6_ask_23 rfl ?_
            refine h_getR d_X6_ask_24 fl_6_54 sp_L rfl ?_
            refine g_aload_n d_X6_ask_27 rfl ?_
            refine h_getR d_X6_ask_28 fl_6_26 sp_L rfl ?_
            refine g_iload_n d_X6_ask_31 rfl ?_
            refine g_iload_n d_X6_ask_32 rfl ?_
            refine h_V3i d_X6_ask_33 cl_6_345 (p_begin_1_3 (by omega) rfl ((hv_at (by decide)).symm.trans eq)) sp_Asks (by decide) rfl (Nat.le_of_ble_eq_true rfl) (by decide) ?_
            refine h_iret d_X6_ask_36 rfl ?_
            refine ⟨_, rfl, ?_⟩
            have hkd2 : hset w 0 0 0 7 (2 + r) = 3 := (hs_j (by decide)).trans ((hS.2.1.2.1 r hr).1.symm.trans eq)
            have e17 : hset w 0 0 0 7 (7 + r) = h 17 r := ((hs_j (by decide)).trans (hS.2.1.2.1 r hr).2.1.symm).trans (hv_at (by decide))
            have e21 : hset w 0 0 0 8 (13 + r) = h 21 r := ((hs_j (by decide)).trans (hS.2.1.2.1 r hr).2.2.2.2.2.symm).trans (hv_at (by decide))
            refine MtH.of [some (.ref 360), some (.int (nI r)), some (.int 1), none] pl_X7 rfl rfl ?_
            refine g_aload_n d_X7_ask_0 rfl ?_
            refine g_iconst d_X7_ask_1 ik_0 ?_
            refine mm_putI d_X7_ask_2 fl_7_62 sp_M rfl ?_
            refine g_aload_n d_X7_ask_5 rfl ?_
            refine g_iload_n d_X7_ask_6 rfl ?_
            refine h_V1i d_X7_ask_7 cl_7_201 (m7_isMachine ((hs_j (by decide)).trans wM)) sp_M (by decide) rfl (Nat.le_of_ble_eq_true rfl) (by decide) ?_
            refine g_if_eq d_X7_ask_10 (fun c10 => ?_) (fun c10 => ?_)
            · exfalso
              simp only [b2i_eq0, b2i_ne0, Int32.lt_iff_toInt_lt, Int32.le_iff_toInt_le, t_0, t_1, t_2, t_3, t_4, t_5, t_6, t_7, t_8, t_9, t_10, t_11, t_12, t_20, t_24, t_40, t_50, t_60, t_99, t_110, t_255, t_999, t_999999, t_m1, er, gM, gN, eM, eN, eM1, eN1] at *
              omega
            · refine g_iload_n d_X7_ask_13 rfl ?_
              refine g_iconst d_X7_ask_14 ik_0 ?_
              refine g_iconst d_X7_ask_15 ik_1 ?_
              refine h_S3i d_X7_ask_16 cl_7_70 m7_in (Nat.le_of_ble_eq_true rfl) (by decide) ?_
              refine g_if_ne d_X7_ask_19 (fun c19 => ?_) (fun c19 => absurd c19 (by decide))
              refine g_aload_n d_X7_ask_25 rfl ?_
              refine g_iconst d_X7_ask_26 ik_0 ?_
              refine mm_putI d_X7_ask_27 fl_7_264 sp_M rfl ?_
              rw [asW_0]
              refine g_aload_n d_X7_ask_30 rfl ?_
              refine h_getR d_X7_ask_31 fl_7_28 sp_M rfl ?_
              refine g_iconst d_X7_ask_34 ik_2 ?_
              refine g_iload_n d_X7_ask_35 rfl ?_
              refine g_iadd d_X7_ask_36 ?_
              refine mm_aldV (k := (2 + r)) (v := 3) d_X7_ask_37 (j := 7) sp_m_d rfl (by decide) (nAdd rfl rfl) (by omega) (by decide) ((asW_o (by omega) (by decide)).trans hkd2) ?_
              refine h_S1i d_X7_ask_38 cl_7_152 m7_washes (Nat.le_of_ble_eq_true rfl) (by decide) ?_
              refine w_istore_n (L' := [_, _, _, _]) d_X7_ask_41 rfl rfl rfl ?_
              refine g_iload_n d_X7_ask_42 rfl ?_
              refine g_if_ne d_X7_ask_43 (fun c43 => ?_) (fun c43 => absurd c43 (by decide))
              refine g_iload_n d_X7_ask_66 rfl ?_
              refine g_if_eq d_X7_ask_67 (fun c67 => absurd c67 (by decide)) (fun c67 => ?_)
              refine g_aload_n d_X7_ask_70 rfl ?_
              refine g_iload_n d_X7_ask_71 rfl ?_
              refine h_V1i d_X7_ask_72 cl_7_276 (m7_washerMark_3 (t := []) (by omega) rfl hkd2 (by simp)) sp_M (by decide) rfl (Nat.le_of_ble_eq_true rfl) (by decide) ?_
              refine g_goto d_X7_ask_75 ?_
              refine h_iret d_X7_ask_83 rfl ?_
              refine ⟨?_, _, _, rfl, hR.asked (by decide)⟩
              try rw [e21]
              try rw [e17]
              try rw [Int32.mul_comm 2]
          · refine g_aload_n d_X6_ask_23 rfl ?_
            refine h_getR d_X6_ask_24 fl_6_54 sp_L rfl ?_
            refine g_aload_n d_X6_ask_27 rfl ?_
            refine h_getR d_X6_ask_28 fl_6_26 sp_L rfl ?_
            refine g_iload_n d_X6_ask_31 rfl ?_
            refine g_iload_n d_X6_ask_32 rfl ?_
            refine h_V3i d_X6_ask_33 cl_6_345 (p_begin_1_4 (by omega) rfl ((hv_at (by decide)).symm.trans eq)) sp_Asks (by decide) rfl (Nat.le_of_ble_eq_true rfl) (by decide) ?_
            refine h_iret d_X6_ask_36 rfl ?_
            refine ⟨_, rfl, ?_⟩
            have hkd2 : hset w 0 0 0 7 (2 + r) = 4 := (hs_j (by decide)).trans ((hS.2.1.2.1 r hr).1.symm.trans eq)
            have e17 : hset w 0 0 0 7 (7 + r) = h 17 r := ((hs_j (by decide)).trans (hS.2.1.2.1 r hr).2.1.symm).trans (hv_at (by decide))
            have e21 : hset w 0 0 0 8 (13 + r) = h 21 r := ((hs_j (by decide)).trans (hS.2.1.2.1 r hr).2.2.2.2.2.symm).trans (hv_at (by decide))
            refine MtH.of [some (.ref 360), some (.int (nI r)), some (.int 1), none] pl_X7 rfl rfl ?_
            refine g_aload_n d_X7_ask_0 rfl ?_
            refine g_iconst d_X7_ask_1 ik_0 ?_
            refine mm_putI d_X7_ask_2 fl_7_62 sp_M rfl ?_
            refine g_aload_n d_X7_ask_5 rfl ?_
            refine g_iload_n d_X7_ask_6 rfl ?_
            refine h_V1i d_X7_ask_7 cl_7_201 (m7_isMachine ((hs_j (by decide)).trans wM)) sp_M (by decide) rfl (Nat.le_of_ble_eq_true rfl) (by decide) ?_
            refine g_if_eq d_X7_ask_10 (fun c10 => ?_) (fun c10 => ?_)
            · exfalso
              simp only [b2i_eq0, b2i_ne0, Int32.lt_iff_toInt_lt, Int32.le_iff_toInt_le, t_0, t_1, t_2, t_3, t_4, t_5, t_6, t_7, t_8, t_9, t_10, t_11, t_12, t_20, t_24, t_40, t_50, t_60, t_99, t_110, t_255, t_999, t_999999, t_m1, er, gM, gN, eM, eN, eM1, eN1] at *
              omega
            · refine g_iload_n d_X7_ask_13 rfl ?_
              refine g_iconst d_X7_ask_14 ik_0 ?_
              refine g_iconst d_X7_ask_15 ik_1 ?_
              refine h_S3i d_X7_ask_16 cl_7_70 m7_in (Nat.le_of_ble_eq_true rfl) (by decide) ?_
              refine g_if_ne d_X7_ask_19 (fun c19 => ?_) (fun c19 => absurd c19 (by decide))
              refine g_aload_n d_X7_ask_25 rfl ?_
              refine g_iconst d_X7_ask_26 ik_0 ?_
              refine mm_putI d_X7_ask_27 fl_7_264 sp_M rfl ?_
              rw [asW_0]
              refine g_aload_n d_X7_ask_30 rfl ?_
              refine h_getR d_X7_ask_31 fl_7_28 sp_M rfl ?_
              refine g_iconst d_X7_ask_34 ik_2 ?_
              refine g_iload_n d_X7_ask_35 rfl ?_
              refine g_iadd d_X7_ask_36 ?_
              refine mm_aldV (k := (2 + r)) (v := 4) d_X7_ask_37 (j := 7) sp_m_d rfl (by decide) (nAdd rfl rfl) (by omega) (by decide) ((asW_o (by omega) (by decide)).trans hkd2) ?_
              refine h_S1i d_X7_ask_38 cl_7_152 m7_washes (Nat.le_of_ble_eq_true rfl) (by decide) ?_
              refine w_istore_n (L' := [_, _, _, _]) d_X7_ask_41 rfl rfl rfl ?_
              refine g_iload_n d_X7_ask_42 rfl ?_
              refine g_if_ne d_X7_ask_43 (fun c43 => ?_) (fun c43 => absurd c43 (by decide))
              refine g_iload_n d_X7_ask_66 rfl ?_
              refine g_if_eq d_X7_ask_67 (fun c67 => ?_) (fun c67 => absurd (by decide) c67)
              refine g_aload_n d_X7_ask_78 rfl ?_
              refine g_iload_n d_X7_ask_79 rfl ?_
              refine h_V1i d_X7_ask_80 cl_7_285 (m7_dryerMark_4 (t := []) (by omega) rfl hkd2 (by simp)) sp_M (by decide) rfl (Nat.le_of_ble_eq_true rfl) (by decide) ?_
              refine h_iret d_X7_ask_83 rfl ?_
              refine ⟨?_, _, _, rfl, hR.asked (by decide)⟩
              try rw [e21]
              try rw [e17]
              try rw [Int32.mul_comm 2]
          · refine g_aload_n d_X6_ask_23 rfl ?_
            refine h_getR d_X6_ask_24 fl_6_54 sp_L rfl ?_
            refine g_aload_n d_X6_ask_27 rfl ?_
            refine h_getR d_X6_ask_28 fl_6_26 sp_L rfl ?_
            refine g_iload_n d_X6_ask_31 rfl ?_
            refine g_iload_n d_X6_ask_32 rfl ?_
            refine h_V3i d_X6_ask_33 cl_6_345 (p_begin_1_5 (by omega) rfl ((hv_at (by decide)).symm.trans eq)) sp_Asks (by decide) rfl (Nat.le_of_ble_eq_true rfl) (by decide) ?_
            refine h_iret d_X6_ask_36 rfl ?_
            refine ⟨_, rfl, ?_⟩
            have hkd2 : hset w 0 0 0 7 (2 + r) = 5 := (hs_j (by decide)).trans ((hS.2.1.2.1 r hr).1.symm.trans eq)
            have e17 : hset w 0 0 0 7 (7 + r) = h 17 r := ((hs_j (by decide)).trans (hS.2.1.2.1 r hr).2.1.symm).trans (hv_at (by decide))
            have e21 : hset w 0 0 0 8 (13 + r) = h 21 r := ((hs_j (by decide)).trans (hS.2.1.2.1 r hr).2.2.2.2.2.symm).trans (hv_at (by decide))
            refine MtH.of [some (.ref 360), some (.int (nI r)), some (.int 1), none] pl_X7 rfl rfl ?_
            refine g_aload_n d_X7_ask_0 rfl ?_
            refine g_iconst d_X7_ask_1 ik_0 ?_
            refine mm_putI d_X7_ask_2 fl_7_62 sp_M rfl ?_
            refine g_aload_n d_X7_ask_5 rfl ?_
            refine g_iload_n d_X7_ask_6 rfl ?_
            refine h_V1i d_X7_ask_7 cl_7_201 (m7_isMachine ((hs_j (by decide)).trans wM)) sp_M (by decide) rfl (Nat.le_of_ble_eq_true rfl) (by decide) ?_
            refine g_if_eq d_X7_ask_10 (fun c10 => ?_) (fun c10 => ?_)
            · exfalso
              simp only [b2i_eq0, b2i_ne0, Int32.lt_iff_toInt_lt, Int32.le_iff_toInt_le, t_0, t_1, t_2, t_3, t_4, t_5, t_6, t_7, t_8, t_9, t_10, t_11, t_12, t_20, t_24, t_40, t_50, t_60, t_99, t_110, t_255, t_999, t_999999, t_m1, er, gM, gN, eM, eN, eM1, eN1] at *
              omega
            · refine g_iload_n d_X7_ask_13 rfl ?_
              refine g_iconst d_X7_ask_14 ik_0 ?_
              refine g_iconst d_X7_ask_15 ik_1 ?_
              refine h_S3i d_X7_ask_16 cl_7_70 m7_in (Nat.le_of_ble_eq_true rfl) (by decide) ?_
              refine g_if_ne d_X7_ask_19 (fun c19 => ?_) (fun c19 => absurd c19 (by decide))
              refine g_aload_n d_X7_ask_25 rfl ?_
              refine g_iconst d_X7_ask_26 ik_0 ?_
              refine mm_putI d_X7_ask_27 fl_7_264 sp_M rfl ?_
              rw [asW_0]
              refine g_aload_n d_X7_ask_30 rfl ?_
              refine h_getR d_X7_ask_31 fl_7_28 sp_M rfl ?_
              refine g_iconst d_X7_ask_34 ik_2 ?_
              refine g_iload_n d_X7_ask_35 rfl ?_
              refine g_iadd d_X7_ask_36 ?_
              refine mm_aldV (k := (2 + r)) (v := 5) d_X7_ask_37 (j := 7) sp_m_d rfl (by decide) (nAdd rfl rfl) (by omega) (by decide) ((asW_o (by omega) (by decide)).trans hkd2) ?_
              refine h_S1i d_X7_ask_38 cl_7_152 m7_washes (Nat.le_of_ble_eq_true rfl) (by decide) ?_
              refine w_istore_n (L' := [_, _, _, _]) d_X7_ask_41 rfl rfl rfl ?_
              refine g_iload_n d_X7_ask_42 rfl ?_
              refine g_if_ne d_X7_ask_43 (fun c43 => ?_) (fun c43 => absurd c43 (by decide))
              refine g_iload_n d_X7_ask_66 rfl ?_
              refine g_if_eq d_X7_ask_67 (fun c67 => ?_) (fun c67 => absurd (by decide) c67)
              refine g_aload_n d_X7_ask_78 rfl ?_
              refine g_iload_n d_X7_ask_79 rfl ?_
              refine h_V1i d_X7_ask_80 cl_7_285 (m7_dryerMark_5 (t := []) (by omega) rfl hkd2 (by simp)) sp_M (by decide) rfl (Nat.le_of_ble_eq_true rfl) (by decide) ?_
              refine h_iret d_X7_ask_83 rfl ?_
              refine ⟨?_, _, _, rfl, hR.asked (by decide)⟩
              try rw [e21]
              try rw [e17]
              try rw [Int32.mul_comm 2]
      · refine g_ldc d_X6_ask_20 kc_X6_66 ?_
        refine h_iret d_X6_ask_22 rfl ?_
        refine ⟨_, rfl, ?_⟩
        refine MtH.of [some (.ref 360), some (.int x), some (.int y), none] pl_X7 rfl rfl ?_
        refine g_aload_n d_X7_ask_0 rfl ?_
        refine g_iconst d_X7_ask_1 ik_0 ?_
        refine mm_putI d_X7_ask_2 fl_7_62 sp_M rfl ?_
        refine g_aload_n d_X7_ask_5 rfl ?_
        refine g_iload_n d_X7_ask_6 rfl ?_
        refine h_V1i d_X7_ask_7 cl_7_201 (m7_isMachine ((hs_j (by decide)).trans wM)) sp_M (by decide) rfl (Nat.le_of_ble_eq_true rfl) (by decide) ?_
        refine g_if_eq d_X7_ask_10 (fun c10 => ?_) (fun c10 => ?_)
        · refine g_ldc d_X7_ask_22 kc_X7_78 ?_
          refine h_iret d_X7_ask_24 rfl ?_
          exact ⟨rfl, _, _, rfl, hR.fr fr_thrown⟩
        · refine g_iload_n d_X7_ask_13 rfl ?_
          refine g_iconst d_X7_ask_14 ik_0 ?_
          refine g_iconst d_X7_ask_15 ik_1 ?_
          refine h_S3i d_X7_ask_16 cl_7_70 m7_in (Nat.le_of_ble_eq_true rfl) (by decide) ?_
          refine g_if_ne d_X7_ask_19 (fun c19 => ?_) (fun c19 => ?_)
          · exfalso
            simp only [b2i_eq0, b2i_ne0, Int32.lt_iff_toInt_lt, Int32.le_iff_toInt_le, t_0, t_1, t_2, t_3, t_4, t_5, t_6, t_7, t_8, t_9, t_10, t_11, t_12, t_20, t_24, t_40, t_50, t_60, t_99, t_110, t_255, t_999, t_999999, t_m1, gM, gN, eM, eN, eM1, eN1] at *
            omega
          · refine g_ldc d_X7_ask_22 kc_X7_78 ?_
            refine h_iret d_X7_ask_24 rfl ?_
            exact ⟨rfl, _, _, rfl, hR.fr fr_thrown⟩
