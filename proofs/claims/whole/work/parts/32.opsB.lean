/-! OPS: drop, set -/
theorem rel_drop {h w : Hv} (hR : RelP h w) {r : Nat} (hr : r < 8) : RelP (hset (hset h 2 r (-1)) 0 9 0) (hset (hset (hset w 0 0 0) 3 r (-1)) 0 4 0) := by
  refine hR.rows (fun x y p q => ?_) (fun x y p q => ?_) ?_ (fun q hq => ?_)
  · rw [hs_ne p, hs_j (by omega)]
  · rw [hs_ne (by omega), hs_j (by omega), hs_ne (by omega)]
  · unfold RStat; rw [hs_at, hs_at]
  · by_cases e : q = r
    · subst e
      refine Or.inl ⟨?_, ?_⟩
      · rw [hs_j (by decide), hs_at]
      · rw [hs_j (by decide), hs_at]
    · refine (hR.2.1 q hq).cg ?_ ?_ (fun i hi => ?_) ?_ ?_ (fun i hi => ?_)
      · rw [hs_j (by decide), hs_b e]
      · rw [hs_j (by decide), hs_j (by decide)]
      · rw [hs_j (by omega), hs_j (by omega)]
      · rw [hs_j (by decide), hs_j (by decide), hs_j (by decide)]
      · rw [hs_j (by decide), hs_b e, hs_j (by decide)]
      · rw [hs_j (by decide), hs_j (by decide), hs_j (by decide)]
theorem rel_set {h w : Hv} (hR : RelP h w) {r i : Nat} (hr : r < 8) (hi : i < 40) {v : Int32} : RelP (hset (hset h (5 + r) i v) 0 9 0) (hset (hset (hset w 0 0 0) 1 (40 * r + i) v) 0 4 0) := by
  refine hR.rows (fun x y p q => ?_) (fun x y p q => ?_) ?_ (fun q hq => ?_)
  · rw [hs_ne p, hs_j (by omega)]
  · rw [hs_ne (by omega), hs_j (by omega), hs_ne (by omega)]
  · unfold RStat; rw [hs_at, hs_at]
  · by_cases e : q = r
    · subst e
      rcases hR.2.1 q hq with z | ⟨a, n, q1, q2, q3, q4, q5, q6, q7⟩
      · refine Or.inl ⟨?_, ?_⟩
        · rw [hs_j (by decide), hs_j (by omega)]; exact z.1
        · rw [hs_j (by decide), hs_j (by decide), hs_j (by decide)]; exact z.2
      · refine Or.inr ⟨a, n, q1, q2, ?_, ?_, ?_, ?_, fun i' hi' => ?_⟩
        · rw [hs_j (by decide), hs_j (by omega)]; exact q3
        · rw [hs_j (by decide), hs_j (by decide), hs_j (by decide)]; exact q4
        · rw [hs_j (by decide), hs_j (by omega)]; exact q5
        · rw [hs_j (by decide), hs_j (by decide), hs_j (by decide)]; exact q6
        · rw [hs_j (j := 0) (x := 5 + q) (by omega), hs_j (j := 0) (x := 1) (b := 4) (by decide)]
          by_cases e2 : i' = i
          · subst e2; rw [hs_at, hs_at]
          · rw [hs_b e2, hs_b (by omega), hs_j (by decide)]; exact q7 i' hi'
    · refine (hR.2.1 q hq).cg ?_ ?_ (fun i hi => ?_) ?_ ?_ (fun i hi => ?_)
      · rw [hs_j (by decide), hs_j (by omega)]
      · rw [hs_j (by decide), hs_j (by omega)]
      · rw [hs_j (by omega), hs_j (by omega)]
      · rw [hs_j (by decide), hs_j (by decide), hs_j (by decide)]
      · rw [hs_j (by decide), hs_j (by decide), hs_j (by decide)]
      · rw [hs_j (by decide), hs_b (by omega), hs_j (by decide)]
theorem op_drop {h w : Hv} (hR : RelP h w) {x : Int32} : OPI M_X6_drop M_X7_drop 2 2 [.int x] (mu h w) := by
  refine MtH.of [some (.ref 0), some (.int x)] pl_X6 rfl rfl ?_
  refine g_iload_n d_X6_drop_0 rfl ?_
  refine h_S1i d_X6_drop_1 cl_6_62 m_isOne (Nat.le_of_ble_eq_true rfl) (by decide) ?_
  refine g_if_ne d_X6_drop_4 (fun c4 => ?_) (fun c4 => ?_)
  · obtain ⟨r, hr, rfl⟩ := rngI (x := x) (B := 8) (by simp only [b2i_eq0, b2i_ne0, Int32.lt_iff_toInt_lt, Int32.le_iff_toInt_le, t_0, t_1, t_2, t_3, t_4, t_5, t_6, t_7, t_8, t_9, t_10, t_11, t_12, t_20, t_24, t_40, t_50, t_60, t_99, t_110, t_255, t_999, t_999999, t_m1] at *; omega) (by simp only [b2i_eq0, b2i_ne0, Int32.lt_iff_toInt_lt, Int32.le_iff_toInt_le, t_0, t_1, t_2, t_3, t_4, t_5, t_6, t_7, t_8, t_9, t_10, t_11, t_12, t_20, t_24, t_40, t_50, t_60, t_99, t_110, t_255, t_999, t_999999, t_m1] at *; omega)
    have er : (nI r).toInt = r := nI_toInt (by omega)
    rcases hR.2.1 r hr with ⟨q2, q3⟩ | ⟨a, n, ha, hn, q2, w2, q3, w3, qi⟩
    · refine g_aload_n d_X6_drop_10 rfl ?_
      refine h_getR d_X6_drop_11 fl_6_10 sp_L rfl ?_
      refine g_iload_n d_X6_drop_14 rfl ?_
      refine h_V1i d_X6_drop_15 cl_6_85 (m_isMissing rfl hr) sp_Rows (by decide) rfl (Nat.le_of_ble_eq_true rfl) (by decide) ?_
      refine g_if_eq d_X6_drop_18 (fun c18 => absurd c18 (by rw [mu_low (by decide), q2]; decide)) (fun c18 => ?_)
      refine g_aload_n d_X6_drop_21 rfl ?_
      refine g_iconst d_X6_drop_22 ik_1 ?_
      refine h_V1i d_X6_drop_23 cl_6_67 m6_found sp_L (by decide) rfl (Nat.le_of_ble_eq_true rfl) (by decide) ?_
      refine h_iret d_X6_drop_26 rfl ?_
      refine ⟨_, rfl, ?_⟩
      rw [mu_hset (by decide)]
      refine MtH.of [some (.ref 360), some (.int (nI r)), none] pl_X7 rfl rfl ?_
      refine g_aload_n d_X7_drop_0 rfl ?_
      refine g_iconst d_X7_drop_1 ik_0 ?_
      refine mm_putI d_X7_drop_2 fl_7_62 sp_M rfl ?_
      refine g_iload_n d_X7_drop_5 rfl ?_
      refine h_S1i d_X7_drop_6 cl_7_74 m7_isRow (Nat.le_of_ble_eq_true rfl) (by decide) ?_
      refine g_if_ne d_X7_drop_9 (fun c9 => ?_) (fun c9 => ?_)
      · refine g_aload_n d_X7_drop_15 rfl ?_
        refine h_getR d_X7_drop_16 fl_7_16 sp_M rfl ?_
        refine g_iload_n d_X7_drop_19 rfl ?_
        refine mm_aldV (k := r) (v := -1) d_X7_drop_20 (j := 3) sp_m_rowSize rfl (by decide) rfl (by omega) (by decide) ((hs_j (by decide)).trans q3) ?_
        refine g_if_ge d_X7_drop_21 (fun c21 => absurd c21 (by decide)) (fun c21 => ?_)
        refine g_aload_n d_X7_drop_24 rfl ?_
        refine g_iconst d_X7_drop_25 ik_1 ?_
        refine h_V1i d_X7_drop_26 cl_7_79 m7_found sp_M (by decide) rfl (Nat.le_of_ble_eq_true rfl) (by decide) ?_
        refine h_iret d_X7_drop_29 rfl ?_
        exact ⟨rfl, _, _, rfl, hR.stat 1⟩
      · exfalso
        simp only [b2i_eq0, b2i_ne0, Int32.lt_iff_toInt_lt, Int32.le_iff_toInt_le, t_0, t_1, t_2, t_3, t_4, t_5, t_6, t_7, t_8, t_9, t_10, t_11, t_12, t_20, t_24, t_40, t_50, t_60, t_99, t_110, t_255, t_999, t_999999, t_m1, er] at *
        omega
    · refine g_aload_n d_X6_drop_10 rfl ?_
      refine h_getR d_X6_drop_11 fl_6_10 sp_L rfl ?_
      refine g_iload_n d_X6_drop_14 rfl ?_
      refine h_V1i d_X6_drop_15 cl_6_85 (m_isMissing rfl hr) sp_Rows (by decide) rfl (Nat.le_of_ble_eq_true rfl) (by decide) ?_
      refine g_if_eq d_X6_drop_18 (fun c18 => ?_) (fun c18 => absurd (by rw [mu_low (by decide), q2]; exact b2i_f (nI_ne_m1 (by omega))) c18)
      refine g_aload_n d_X6_drop_27 rfl ?_
      refine g_aload_n d_X6_drop_28 rfl ?_
      refine h_getR d_X6_drop_29 fl_6_10 sp_L rfl ?_
      refine g_iload_n d_X6_drop_32 rfl ?_
      refine h_V1i d_X6_drop_33 cl_6_105 (m_remove rfl hr) sp_Rows (by decide) rfl (Nat.le_of_ble_eq_true rfl) (by decide) ?_
      refine h_V1i d_X6_drop_36 cl_6_75 m6_foundNothing sp_L (by decide) rfl (Nat.le_of_ble_eq_true rfl) (by decide) ?_
      refine h_iret d_X6_drop_39 rfl ?_
      refine ⟨_, rfl, ?_⟩
      rw [mu_hset (a := 2) (by decide), mu_hset (a := 0) (by decide)]
      refine MtH.of [some (.ref 360), some (.int (nI r)), none] pl_X7 rfl rfl ?_
      refine g_aload_n d_X7_drop_0 rfl ?_
      refine g_iconst d_X7_drop_1 ik_0 ?_
      refine mm_putI d_X7_drop_2 fl_7_62 sp_M rfl ?_
      refine g_iload_n d_X7_drop_5 rfl ?_
      refine h_S1i d_X7_drop_6 cl_7_74 m7_isRow (Nat.le_of_ble_eq_true rfl) (by decide) ?_
      refine g_if_ne d_X7_drop_9 (fun c9 => ?_) (fun c9 => ?_)
      · refine g_aload_n d_X7_drop_15 rfl ?_
        refine h_getR d_X7_drop_16 fl_7_16 sp_M rfl ?_
        refine g_iload_n d_X7_drop_19 rfl ?_
        refine mm_aldV (k := r) (v := nI n) d_X7_drop_20 (j := 3) sp_m_rowSize rfl (by decide) rfl (by omega) (by decide) ((hs_j (by decide)).trans w3) ?_
        refine g_if_ge d_X7_drop_21 (fun c21 => ?_) (fun c21 => absurd (nI_le (a := 0) (b := n) (by omega) (by omega)) c21)
        refine g_aload_n d_X7_drop_30 rfl ?_
        refine h_getR d_X7_drop_31 fl_7_16 sp_M rfl ?_
        refine g_iload_n d_X7_drop_34 rfl ?_
        refine mm_aldV (k := r) (v := nI n) d_X7_drop_35 (j := 3) sp_m_rowSize rfl (by decide) rfl (by omega) (by decide) ((hs_j (by decide)).trans w3) ?_
        refine w_istore_n (L' := [_, _, _]) d_X7_drop_36 rfl rfl rfl ?_
        refine g_aload_n d_X7_drop_37 rfl ?_
        refine h_getR d_X7_drop_38 fl_7_16 sp_M rfl ?_
        refine g_iload_n d_X7_drop_41 rfl ?_
        refine g_iconst d_X7_drop_42 ik_m1 ?_
        refine mm_astE (k := r) d_X7_drop_43 (j := 3) sp_m_rowSize rfl (by decide) rfl (by omega) (by decide) ?_
        refine g_aload_n d_X7_drop_44 rfl ?_
        refine g_iload_n d_X7_drop_45 rfl ?_
        refine h_V1i d_X7_drop_46 cl_7_83 m7_well sp_M (by decide) rfl (Nat.le_of_ble_eq_true rfl) (by decide) ?_
        refine h_iret d_X7_drop_49 rfl ?_
        exact ⟨by rw [mu_low (by decide), q3], _, _, rfl, rel_drop hR hr⟩
      · exfalso
        simp only [b2i_eq0, b2i_ne0, Int32.lt_iff_toInt_lt, Int32.le_iff_toInt_le, t_0, t_1, t_2, t_3, t_4, t_5, t_6, t_7, t_8, t_9, t_10, t_11, t_12, t_20, t_24, t_40, t_50, t_60, t_99, t_110, t_255, t_999, t_999999, t_m1, er] at *
        omega
  · refine g_ldc d_X6_drop_7 kc_X6_66 ?_
    refine h_iret d_X6_drop_9 rfl ?_
    refine ⟨_, rfl, ?_⟩
    refine MtH.of [some (.ref 360), some (.int x), none] pl_X7 rfl rfl ?_
    refine g_aload_n d_X7_drop_0 rfl ?_
    refine g_iconst d_X7_drop_1 ik_0 ?_
    refine mm_putI d_X7_drop_2 fl_7_62 sp_M rfl ?_
    refine g_iload_n d_X7_drop_5 rfl ?_
    refine h_S1i d_X7_drop_6 cl_7_74 m7_isRow (Nat.le_of_ble_eq_true rfl) (by decide) ?_
    refine g_if_ne d_X7_drop_9 (fun c9 => ?_) (fun c9 => ?_)
    · exfalso
      simp only [b2i_eq0, b2i_ne0, Int32.lt_iff_toInt_lt, Int32.le_iff_toInt_le, t_0, t_1, t_2, t_3, t_4, t_5, t_6, t_7, t_8, t_9, t_10, t_11, t_12, t_20, t_24, t_40, t_50, t_60, t_99, t_110, t_255, t_999, t_999999, t_m1] at *
      omega
    · refine g_ldc d_X7_drop_12 kc_X7_78 ?_
      refine h_iret d_X7_drop_14 rfl ?_
      exact ⟨rfl, _, _, rfl, hR.fr fr_thrown⟩
theorem op_set {h w : Hv} (hR : RelP h w) {x y v : Int32} : OPI M_X6_set M_X7_set 2 2 [.int x, .int y, .int v] (mu h w) := by
  refine MtH.of [some (.ref 0), some (.int x), some (.int y), some (.int v), none] pl_X6 rfl rfl ?_
  refine g_iload_n d_X6_set_0 rfl ?_
  refine h_S1i d_X6_set_1 cl_6_62 m_isOne (Nat.le_of_ble_eq_true rfl) (by decide) ?_
  refine g_if_ne d_X6_set_4 (fun c4 => ?_) (fun c4 => ?_)
  · obtain ⟨r, hr, rfl⟩ := rngI (x := x) (B := 8) (by simp only [b2i_eq0, b2i_ne0, Int32.lt_iff_toInt_lt, Int32.le_iff_toInt_le, t_0, t_1, t_2, t_3, t_4, t_5, t_6, t_7, t_8, t_9, t_10, t_11, t_12, t_20, t_24, t_40, t_50, t_60, t_99, t_110, t_255, t_999, t_999999, t_m1] at *; omega) (by simp only [b2i_eq0, b2i_ne0, Int32.lt_iff_toInt_lt, Int32.le_iff_toInt_le, t_0, t_1, t_2, t_3, t_4, t_5, t_6, t_7, t_8, t_9, t_10, t_11, t_12, t_20, t_24, t_40, t_50, t_60, t_99, t_110, t_255, t_999, t_999999, t_m1] at *; omega)
    have er : (nI r).toInt = r := nI_toInt (by omega)
    rcases hR.2.1 r hr with ⟨q2, q3⟩ | ⟨a, n, ha, hn, q2, w2, q3, w3, qi⟩
    · have hm : MtF M_X4_findingOf 1 [.ref 1, .int (nI r), .int y, .int 1] (mu h w) (some (.int 1)) (mu h w) := by
        have z := m_findingOf (h := mu h w) (x := nI r) (i := y) (n := 1) rfl hr
        rw [mu_low (a := 2) (by decide), mu_low (a := 3) (by decide), q2, if_pos rfl] at z
        exact z
      refine g_aload_n d_X6_set_10 rfl ?_
      refine h_getR d_X6_set_11 fl_6_10 sp_L rfl ?_
      refine g_iload_n d_X6_set_14 rfl ?_
      refine g_iload_n d_X6_set_15 rfl ?_
      refine g_iconst d_X6_set_16 ik_1 ?_
      refine h_V3i d_X6_set_17 cl_6_78 hm sp_Rows (by decide) rfl (Nat.le_of_ble_eq_true rfl) (by decide) ?_
      refine w_istore (L' := [_, _, _, _, _]) d_X6_set_20 rfl rfl rfl ?_
      refine g_iload d_X6_set_22 rfl ?_
      refine g_if_eq d_X6_set_24 (fun c24 => absurd c24 (by decide)) (fun c24 => ?_)
      refine g_aload_n d_X6_set_27 rfl ?_
      refine g_iload d_X6_set_28 rfl ?_
      refine h_V1i d_X6_set_30 cl_6_67 m6_found sp_L (by decide) rfl (Nat.le_of_ble_eq_true rfl) (by decide) ?_
      refine h_iret d_X6_set_33 rfl ?_
      refine ⟨_, rfl, ?_⟩
      rw [mu_hset (by decide)]
      refine MtH.of [some (.ref 360), some (.int (nI r)), some (.int y), some (.int v), none] pl_X7 rfl rfl ?_
      refine g_aload_n d_X7_set_0 rfl ?_
      refine g_iconst d_X7_set_1 ik_0 ?_
      refine mm_putI d_X7_set_2 fl_7_62 sp_M rfl ?_
      refine g_iload_n d_X7_set_5 rfl ?_
      refine h_S1i d_X7_set_6 cl_7_74 m7_isRow (Nat.le_of_ble_eq_true rfl) (by decide) ?_
      refine g_if_ne d_X7_set_9 (fun c9 => ?_) (fun c9 => ?_)
      · refine g_aload_n d_X7_set_15 rfl ?_
        refine h_getR d_X7_set_16 fl_7_16 sp_M rfl ?_
        refine g_iload_n d_X7_set_19 rfl ?_
        refine mm_aldV (k := r) (v := -1) d_X7_set_20 (j := 3) sp_m_rowSize rfl (by decide) rfl (by omega) (by decide) ((hs_j (by decide)).trans q3) ?_
        refine g_if_ge d_X7_set_21 (fun c21 => absurd c21 (by decide)) (fun c21 => ?_)
        refine g_aload_n d_X7_set_24 rfl ?_
        refine g_iconst d_X7_set_25 ik_1 ?_
        refine h_V1i d_X7_set_26 cl_7_79 m7_found sp_M (by decide) rfl (Nat.le_of_ble_eq_true rfl) (by decide) ?_
        refine h_iret d_X7_set_29 rfl ?_
        exact ⟨rfl, _, _, rfl, hR.stat 1⟩
      · exfalso
        simp only [b2i_eq0, b2i_ne0, Int32.lt_iff_toInt_lt, Int32.le_iff_toInt_le, t_0, t_1, t_2, t_3, t_4, t_5, t_6, t_7, t_8, t_9, t_10, t_11, t_12, t_20, t_24, t_40, t_50, t_60, t_99, t_110, t_255, t_999, t_999999, t_m1, er] at *
        omega
    · have en : (nI n).toInt = n := nI_toInt (by omega)
      have en1 := nI_predI (t := n) (by omega)
      by_cases hp : 0 ≤ y.toInt ∧ y.toInt < n
      · obtain ⟨i, hi, rfl⟩ := rngI (x := y) (B := n) hp.1 hp.2
        have ei : (nI i).toInt = i := nI_toInt (by omega)
        have hm : MtF M_X4_findingOf 1 [.ref 1, .int (nI r), .int (nI i), .int 1] (mu h w) (some (.int 0)) (mu h w) := by
          have z := m_findingOf (h := mu h w) (x := nI r) (i := nI i) (n := 1) rfl hr
          rw [mu_low (a := 2) (by decide), mu_low (a := 3) (by decide), q2, q3, if_neg (nI_ne_m1 (by omega)), if_pos (by refine ⟨by decide, ?_, ?_, ?_⟩ <;> simp only [Int32.lt_iff_toInt_lt, en1, en, ei, t_0, t_1] <;> omega)] at z
          exact z
        refine g_aload_n d_X6_set_10 rfl ?_
        refine h_getR d_X6_set_11 fl_6_10 sp_L rfl ?_
        refine g_iload_n d_X6_set_14 rfl ?_
        refine g_iload_n d_X6_set_15 rfl ?_
        refine g_iconst d_X6_set_16 ik_1 ?_
        refine h_V3i d_X6_set_17 cl_6_78 hm sp_Rows (by decide) rfl (Nat.le_of_ble_eq_true rfl) (by decide) ?_
        refine w_istore (L' := [_, _, _, _, _]) d_X6_set_20 rfl rfl rfl ?_
        refine g_iload d_X6_set_22 rfl ?_
        refine g_if_eq d_X6_set_24 (fun c24 => ?_) (fun c24 => absurd rfl c24)
        refine g_aload_n d_X6_set_34 rfl ?_
        refine g_aload_n d_X6_set_35 rfl ?_
        refine h_getR d_X6_set_36 fl_6_10 sp_L rfl ?_
        refine g_iload_n d_X6_set_39 rfl ?_
        refine g_iload_n d_X6_set_40 rfl ?_
        refine g_iload_n d_X6_set_41 rfl ?_
        refine h_V3i d_X6_set_42 cl_6_82 (m_put rfl hr rfl (by omega)) sp_Rows (by decide) rfl (Nat.le_of_ble_eq_true rfl) (by decide) ?_
        refine h_V1i d_X6_set_45 cl_6_75 m6_foundNothing sp_L (by decide) rfl (Nat.le_of_ble_eq_true rfl) (by decide) ?_
        refine h_iret d_X6_set_48 rfl ?_
        refine ⟨_, rfl, ?_⟩
        rw [mu_low (a := 2) (by decide), q2, mu_hset (a := 5 + r) (by omega), mu_hset (a := 0) (by decide)]
        refine MtH.of [some (.ref 360), some (.int (nI r)), some (.int (nI i)), some (.int v), none] pl_X7 rfl rfl ?_
        refine g_aload_n d_X7_set_0 rfl ?_
        refine g_iconst d_X7_set_1 ik_0 ?_
        refine mm_putI d_X7_set_2 fl_7_62 sp_M rfl ?_
        refine g_iload_n d_X7_set_5 rfl ?_
        refine h_S1i d_X7_set_6 cl_7_74 m7_isRow (Nat.le_of_ble_eq_true rfl) (by decide) ?_
        refine g_if_ne d_X7_set_9 (fun c9 => ?_) (fun c9 => ?_)
        · refine g_aload_n d_X7_set_15 rfl ?_
          refine h_getR d_X7_set_16 fl_7_16 sp_M rfl ?_
          refine g_iload_n d_X7_set_19 rfl ?_
          refine mm_aldV (k := r) (v := nI n) d_X7_set_20 (j := 3) sp_m_rowSize rfl (by decide) rfl (by omega) (by decide) ((hs_j (by decide)).trans w3) ?_
          refine g_if_ge d_X7_set_21 (fun c21 => ?_) (fun c21 => absurd (nI_le (a := 0) (b := n) (by omega) (by omega)) c21)
          refine g_iload_n d_X7_set_30 rfl ?_
          refine g_iconst d_X7_set_31 ik_0 ?_
          refine g_aload_n d_X7_set_32 rfl ?_
          refine h_getR d_X7_set_33 fl_7_16 sp_M rfl ?_
          refine g_iload_n d_X7_set_36 rfl ?_
          refine mm_aldV (k := r) (v := nI n) d_X7_set_37 (j := 3) sp_m_rowSize rfl (by decide) rfl (by omega) (by decide) ((hs_j (by decide)).trans w3) ?_
          refine g_iconst d_X7_set_38 ik_1 ?_
          refine g_isub d_X7_set_39 ?_
          refine h_S3i d_X7_set_40 cl_7_70 m7_in (Nat.le_of_ble_eq_true rfl) (by decide) ?_
          refine g_if_ne d_X7_set_43 (fun c43 => ?_) (fun c43 => ?_)
          · refine g_aload_n d_X7_set_52 rfl ?_
            refine h_getR d_X7_set_53 fl_7_13 sp_M rfl ?_
            refine g_iload_n d_X7_set_56 rfl ?_
            refine mm_aldV (k := r) (v := nI a) d_X7_set_57 (j := 2) sp_m_lane rfl (by decide) rfl (by omega) (by decide) ((hs_j (by decide)).trans w2) ?_
            refine g_if_ne d_X7_set_58 (fun c58 => ?_) (fun c58 => ?_)
            · refine g_aload_n d_X7_set_66 rfl ?_
              refine h_getR d_X7_set_67 fl_7_13 sp_M rfl ?_
              refine g_iload_n d_X7_set_70 rfl ?_
              refine mm_aldV (k := r) (v := nI a) d_X7_set_71 (j := 2) sp_m_lane rfl (by decide) rfl (by omega) (by decide) ((hs_j (by decide)).trans w2) ?_
              refine g_iconst d_X7_set_72 ik_1 ?_
              refine g_icmp_ne d_X7_set_73 (fun c73 => ?_) (fun c73 => ?_)
              · refine g_iload_n d_X7_set_81 rfl ?_
                refine w_istore (L' := [_, _, _, _, _]) d_X7_set_82 rfl rfl rfl ?_
                refine g_aload_n d_X7_set_84 rfl ?_
                refine h_getR d_X7_set_85 fl_7_7 sp_M rfl ?_
                refine g_bipush d_X7_set_88 bk_40 ?_
                refine g_iload_n d_X7_set_90 rfl ?_
                refine g_imul d_X7_set_91 ?_
                refine g_iload_n d_X7_set_92 rfl ?_
                refine g_iadd d_X7_set_93 ?_
                refine g_iload d_X7_set_94 rfl ?_
                refine mm_astE (k := ((40 * r) + i)) d_X7_set_96 (j := 1) sp_m_rows rfl (by decide) (nAdd (nMul rfl rfl) rfl) (by omega) (by decide) ?_
                refine g_aload_n d_X7_set_97 rfl ?_
                refine g_iload d_X7_set_98 rfl ?_
                refine h_V1i d_X7_set_100 cl_7_83 m7_well sp_M (by decide) rfl (Nat.le_of_ble_eq_true rfl) (by decide) ?_
                refine h_iret d_X7_set_103 rfl ?_
                exact ⟨by unfold laneV; first | rw [if_pos c58] | rw [if_neg c58, if_pos c73] | rw [if_neg c58, if_neg c73], _, _, rfl, by have z := rel_set hR hr (show i < 40 by omega) (v := laneV (nI a) v); unfold laneV at z; first | (rw [if_pos c58] at z; simpa only [laneV, if_pos c58] using z) | (rw [if_neg c58, if_pos c73] at z; simpa only [laneV, if_neg c58, if_pos c73] using z) | (rw [if_neg c58, if_neg c73] at z; simpa only [laneV, if_neg c58, if_neg c73] using z)⟩
              · refine g_iload_n d_X7_set_76 rfl ?_
                refine g_i2s d_X7_set_77 ?_
                refine g_goto d_X7_set_78 ?_
                refine w_istore (L' := [_, _, _, _, _]) d_X7_set_82 rfl rfl rfl ?_
                refine g_aload_n d_X7_set_84 rfl ?_
                refine h_getR d_X7_set_85 fl_7_7 sp_M rfl ?_
                refine g_bipush d_X7_set_88 bk_40 ?_
                refine g_iload_n d_X7_set_90 rfl ?_
                refine g_imul d_X7_set_91 ?_
                refine g_iload_n d_X7_set_92 rfl ?_
                refine g_iadd d_X7_set_93 ?_
                refine g_iload d_X7_set_94 rfl ?_
                refine mm_astE (k := ((40 * r) + i)) d_X7_set_96 (j := 1) sp_m_rows rfl (by decide) (nAdd (nMul rfl rfl) rfl) (by omega) (by decide) ?_
                refine g_aload_n d_X7_set_97 rfl ?_
                refine g_iload d_X7_set_98 rfl ?_
                refine h_V1i d_X7_set_100 cl_7_83 m7_well sp_M (by decide) rfl (Nat.le_of_ble_eq_true rfl) (by decide) ?_
                refine h_iret d_X7_set_103 rfl ?_
                exact ⟨by unfold laneV; first | rw [if_pos c58] | rw [if_neg c58, if_pos c73] | rw [if_neg c58, if_neg c73], _, _, rfl, by have z := rel_set hR hr (show i < 40 by omega) (v := laneV (nI a) v); unfold laneV at z; first | (rw [if_pos c58] at z; simpa only [laneV, if_pos c58] using z) | (rw [if_neg c58, if_pos c73] at z; simpa only [laneV, if_neg c58, if_pos c73] using z) | (rw [if_neg c58, if_neg c73] at z; simpa only [laneV, if_neg c58, if_neg c73] using z)⟩
            · refine g_iload_n d_X7_set_61 rfl ?_
              refine g_i2b d_X7_set_62 ?_
              refine g_goto d_X7_set_63 ?_
              refine w_istore (L' := [_, _, _, _, _]) d_X7_set_82 rfl rfl rfl ?_
              refine g_aload_n d_X7_set_84 rfl ?_
              refine h_getR d_X7_set_85 fl_7_7 sp_M rfl ?_
              refine g_bipush d_X7_set_88 bk_40 ?_
              refine g_iload_n d_X7_set_90 rfl ?_
              refine g_imul d_X7_set_91 ?_
              refine g_iload_n d_X7_set_92 rfl ?_
              refine g_iadd d_X7_set_93 ?_
              refine g_iload d_X7_set_94 rfl ?_
              refine mm_astE (k := ((40 * r) + i)) d_X7_set_96 (j := 1) sp_m_rows rfl (by decide) (nAdd (nMul rfl rfl) rfl) (by omega) (by decide) ?_
              refine g_aload_n d_X7_set_97 rfl ?_
              refine g_iload d_X7_set_98 rfl ?_
              refine h_V1i d_X7_set_100 cl_7_83 m7_well sp_M (by decide) rfl (Nat.le_of_ble_eq_true rfl) (by decide) ?_
              refine h_iret d_X7_set_103 rfl ?_
              exact ⟨by unfold laneV; first | rw [if_pos c58] | rw [if_neg c58, if_pos c73] | rw [if_neg c58, if_neg c73], _, _, rfl, by have z := rel_set hR hr (show i < 40 by omega) (v := laneV (nI a) v); unfold laneV at z; first | (rw [if_pos c58] at z; simpa only [laneV, if_pos c58] using z) | (rw [if_neg c58, if_pos c73] at z; simpa only [laneV, if_neg c58, if_pos c73] using z) | (rw [if_neg c58, if_neg c73] at z; simpa only [laneV, if_neg c58, if_neg c73] using z)⟩
          · exfalso
            simp only [b2i_eq0, b2i_ne0, Int32.lt_iff_toInt_lt, Int32.le_iff_toInt_le, t_0, t_1, t_2, t_3, t_4, t_5, t_6, t_7, t_8, t_9, t_10, t_11, t_12, t_20, t_24, t_40, t_50, t_60, t_99, t_110, t_255, t_999, t_999999, t_m1, er, en, en1, ei] at *
            omega
        · exfalso
          simp only [b2i_eq0, b2i_ne0, Int32.lt_iff_toInt_lt, Int32.le_iff_toInt_le, t_0, t_1, t_2, t_3, t_4, t_5, t_6, t_7, t_8, t_9, t_10, t_11, t_12, t_20, t_24, t_40, t_50, t_60, t_99, t_110, t_255, t_999, t_999999, t_m1, er] at *
          omega
      · have hm : MtF M_X4_findingOf 1 [.ref 1, .int (nI r), .int y, .int 1] (mu h w) (some (.int 2)) (mu h w) := by
          have z := m_findingOf (h := mu h w) (x := nI r) (i := y) (n := 1) rfl hr
          rw [mu_low (a := 2) (by decide), mu_low (a := 3) (by decide), q2, q3, if_neg (nI_ne_m1 (by omega)), if_neg (fun p => hp (by have := p.2.2; simp only [Int32.lt_iff_toInt_lt, en1, t_0] at this; omega))] at z
          exact z
        refine g_aload_n d_X6_set_10 rfl ?_
        refine h_getR d_X6_set_11 fl_6_10 sp_L rfl ?_
        refine g_iload_n d_X6_set_14 rfl ?_
        refine g_iload_n d_X6_set_15 rfl ?_
        refine g_iconst d_X6_set_16 ik_1 ?_
        refine h_V3i d_X6_set_17 cl_6_78 hm sp_Rows (by decide) rfl (Nat.le_of_ble_eq_true rfl) (by decide) ?_
        refine w_istore (L' := [_, _, _, _, _]) d_X6_set_20 rfl rfl rfl ?_
        refine g_iload d_X6_set_22 rfl ?_
        refine g_if_eq d_X6_set_24 (fun c24 => absurd c24 (by decide)) (fun c24 => ?_)
        refine g_aload_n d_X6_set_27 rfl ?_
        refine g_iload d_X6_set_28 rfl ?_
        refine h_V1i d_X6_set_30 cl_6_67 m6_found sp_L (by decide) rfl (Nat.le_of_ble_eq_true rfl) (by decide) ?_
        refine h_iret d_X6_set_33 rfl ?_
        refine ⟨_, rfl, ?_⟩
        rw [mu_hset (by decide)]
        refine MtH.of [some (.ref 360), some (.int (nI r)), some (.int y), some (.int v), none] pl_X7 rfl rfl ?_
        refine g_aload_n d_X7_set_0 rfl ?_
        refine g_iconst d_X7_set_1 ik_0 ?_
        refine mm_putI d_X7_set_2 fl_7_62 sp_M rfl ?_
        refine g_iload_n d_X7_set_5 rfl ?_
        refine h_S1i d_X7_set_6 cl_7_74 m7_isRow (Nat.le_of_ble_eq_true rfl) (by decide) ?_
        refine g_if_ne d_X7_set_9 (fun c9 => ?_) (fun c9 => ?_)
        · refine g_aload_n d_X7_set_15 rfl ?_
          refine h_getR d_X7_set_16 fl_7_16 sp_M rfl ?_
          refine g_iload_n d_X7_set_19 rfl ?_
          refine mm_aldV (k := r) (v := nI n) d_X7_set_20 (j := 3) sp_m_rowSize rfl (by decide) rfl (by omega) (by decide) ((hs_j (by decide)).trans w3) ?_
          refine g_if_ge d_X7_set_21 (fun c21 => ?_) (fun c21 => absurd (nI_le (a := 0) (b := n) (by omega) (by omega)) c21)
          refine g_iload_n d_X7_set_30 rfl ?_
          refine g_iconst d_X7_set_31 ik_0 ?_
          refine g_aload_n d_X7_set_32 rfl ?_
          refine h_getR d_X7_set_33 fl_7_16 sp_M rfl ?_
          refine g_iload_n d_X7_set_36 rfl ?_
          refine mm_aldV (k := r) (v := nI n) d_X7_set_37 (j := 3) sp_m_rowSize rfl (by decide) rfl (by omega) (by decide) ((hs_j (by decide)).trans w3) ?_
          refine g_iconst d_X7_set_38 ik_1 ?_
          refine g_isub d_X7_set_39 ?_
          refine h_S3i d_X7_set_40 cl_7_70 m7_in (Nat.le_of_ble_eq_true rfl) (by decide) ?_
          refine g_if_ne d_X7_set_43 (fun c43 => ?_) (fun c43 => ?_)
          · exfalso
            simp only [b2i_eq0, b2i_ne0, Int32.lt_iff_toInt_lt, Int32.le_iff_toInt_le, t_0, t_1, t_2, t_3, t_4, t_5, t_6, t_7, t_8, t_9, t_10, t_11, t_12, t_20, t_24, t_40, t_50, t_60, t_99, t_110, t_255, t_999, t_999999, t_m1, er, en, en1] at *
            omega
          · refine g_aload_n d_X7_set_46 rfl ?_
            refine g_iconst d_X7_set_47 ik_2 ?_
            refine h_V1i d_X7_set_48 cl_7_79 m7_found sp_M (by decide) rfl (Nat.le_of_ble_eq_true rfl) (by decide) ?_
            refine h_iret d_X7_set_51 rfl ?_
            exact ⟨rfl, _, _, rfl, hR.stat 2⟩
        · exfalso
          simp only [b2i_eq0, b2i_ne0, Int32.lt_iff_toInt_lt, Int32.le_iff_toInt_le, t_0, t_1, t_2, t_3, t_4, t_5, t_6, t_7, t_8, t_9, t_10, t_11, t_12, t_20, t_24, t_40, t_50, t_60, t_99, t_110, t_255, t_999, t_999999, t_m1, er] at *
          omega
  · refine g_ldc d_X6_set_7 kc_X6_66 ?_
    refine h_iret d_X6_set_9 rfl ?_
    refine ⟨_, rfl, ?_⟩
    refine MtH.of [some (.ref 360), some (.int x), some (.int y), some (.int v), none] pl_X7 rfl rfl ?_
    refine g_aload_n d_X7_set_0 rfl ?_
    refine g_iconst d_X7_set_1 ik_0 ?_
    refine mm_putI d_X7_set_2 fl_7_62 sp_M rfl ?_
    refine g_iload_n d_X7_set_5 rfl ?_
    refine h_S1i d_X7_set_6 cl_7_74 m7_isRow (Nat.le_of_ble_eq_true rfl) (by decide) ?_
    refine g_if_ne d_X7_set_9 (fun c9 => ?_) (fun c9 => ?_)
    · exfalso
      simp only [b2i_eq0, b2i_ne0, Int32.lt_iff_toInt_lt, Int32.le_iff_toInt_le, t_0, t_1, t_2, t_3, t_4, t_5, t_6, t_7, t_8, t_9, t_10, t_11, t_12, t_20, t_24, t_40, t_50, t_60, t_99, t_110, t_255, t_999, t_999999, t_m1] at *
      omega
    · refine g_ldc d_X7_set_12 kc_X7_78 ?_
      refine h_iret d_X7_set_14 rfl ?_
      exact ⟨rfl, _, _, rfl, hR.fr fr_thrown⟩
