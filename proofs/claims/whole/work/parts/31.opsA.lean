/-! OPS: the rows, what was found, the trace -/
theorem m6_found {h : Hv} {v : Int32} : MtF M_X6_found 0 [.ref 0, .int v] (h) (some (.int (-1000010 - v))) (hset h 0 9 v) := by
  refine MtF.of [some (.ref 0), some (.int v)] pl_X6 rfl rfl ?_
  refine g_aload_n d_X6_found_0 rfl ?_
  refine g_iload_n d_X6_found_1 rfl ?_
  refine h_putI d_X6_found_2 fl_6_108 sp_L rfl ?_
  refine g_ldc d_X6_found_5 kc_X6_112 ?_
  refine g_iload_n d_X6_found_7 rfl ?_
  refine g_isub d_X6_found_8 ?_
  refine h_iret d_X6_found_9 rfl ?_
  exact ⟨rfl, rfl⟩
theorem m6_foundNothing {h : Hv} {v : Int32} : MtF M_X6_foundNothing 0 [.ref 0, .int v] (h) (some (.int v)) (hset h 0 9 0) := by
  refine MtF.of [some (.ref 0), some (.int v)] pl_X6 rfl rfl ?_
  refine g_aload_n d_X6_foundNothing_0 rfl ?_
  refine g_iconst d_X6_foundNothing_1 ik_0 ?_
  refine h_putI d_X6_foundNothing_2 fl_6_108 sp_L rfl ?_
  refine g_iload_n d_X6_foundNothing_5 rfl ?_
  refine h_iret d_X6_foundNothing_6 rfl ?_
  exact ⟨rfl, rfl⟩
theorem m7_found {h w : Hv} {v : Int32} : MtF M_X7_found 0 [.ref 360, .int v] (mu h w) (some (.int (-1000010 - v))) (mu h (hset w 0 4 v)) := by
  refine MtF.of [some (.ref 360), some (.int v)] pl_X7 rfl rfl ?_
  refine g_aload_n d_X7_found_0 rfl ?_
  refine g_iload_n d_X7_found_1 rfl ?_
  refine mm_putI d_X7_found_2 fl_7_66 sp_M rfl ?_
  refine g_ldc d_X7_found_5 kc_X7_69 ?_
  refine g_iload_n d_X7_found_7 rfl ?_
  refine g_isub d_X7_found_8 ?_
  refine h_iret d_X7_found_9 rfl ?_
  exact ⟨rfl, rfl⟩
theorem m7_well {h w : Hv} {v : Int32} : MtF M_X7_well 0 [.ref 360, .int v] (mu h w) (some (.int v)) (mu h (hset w 0 4 0)) := by
  refine MtF.of [some (.ref 360), some (.int v)] pl_X7 rfl rfl ?_
  refine g_aload_n d_X7_well_0 rfl ?_
  refine g_iconst d_X7_well_1 ik_0 ?_
  refine mm_putI d_X7_well_2 fl_7_66 sp_M rfl ?_
  refine g_iload_n d_X7_well_5 rfl ?_
  refine h_iret d_X7_well_6 rfl ?_
  exact ⟨rfl, rfl⟩
theorem m7_isRow {h : Hv} {v : Int32} : MtF M_X7_isRow 1 [.int v] (h) (some (.int (b2i (¬ v < 0 ∧ ¬ 7 < v)))) (h) := by
  refine MtF.of [some (.int v)] pl_X7 rfl rfl ?_
  refine g_iload_n d_X7_isRow_0 rfl ?_
  refine g_iconst d_X7_isRow_1 ik_0 ?_
  refine g_bipush d_X7_isRow_2 bk_7 ?_
  refine h_S3i d_X7_isRow_4 cl_7_70 m7_in (Nat.le_of_ble_eq_true rfl) (by decide) ?_
  refine h_zret d_X7_isRow_7 rfl b2i_nar ?_
  exact ⟨rfl, rfl⟩
theorem op_status {h w : Hv} (hR : RelP h w) : OPI M_X6_status M_X7_status 1 1 [] (mu h w) := by
  refine MtH.of [some (.ref 0)] pl_X6 rfl rfl ?_
  refine g_aload_n d_X6_status_0 rfl ?_
  refine h_getI d_X6_status_1 fl_6_108 sp_L rfl ?_
  refine h_iret d_X6_status_4 rfl ?_
  refine ⟨_, rfl, ?_⟩
  refine MtH.of [some (.ref 360)] pl_X7 rfl rfl ?_
  refine g_aload_n d_X7_status_0 rfl ?_
  refine g_iconst d_X7_status_1 ik_0 ?_
  refine mm_putI d_X7_status_2 fl_7_62 sp_M rfl ?_
  refine g_aload_n d_X7_status_5 rfl ?_
  refine mm_getV (v := h 0 9) d_X7_status_6 fl_7_66 sp_M rfl ((hs_b (by decide)).trans hR.1.symm) ?_
  refine h_iret d_X7_status_9 rfl ?_
  exact ⟨by rw [mu_low (by decide)], _, _, rfl, hR.fr fr_thrown⟩
theorem op_fault {h w : Hv} (hR : RelP h w) : OPI M_X6_fault M_X7_fault 1 1 [] (mu h w) := by
  refine MtH.of [some (.ref 0)] pl_X6 rfl rfl ?_
  refine g_aload_n d_X6_fault_0 rfl ?_
  refine h_getR d_X6_fault_1 fl_6_19 sp_L rfl ?_
  refine h_getI d_X6_fault_4 fl_6_135 sp_Tape rfl ?_
  refine h_iret d_X6_fault_7 rfl ?_
  refine ⟨_, rfl, ?_⟩
  refine MtH.of [some (.ref 360)] pl_X7 rfl rfl ?_
  refine g_aload_n d_X7_fault_0 rfl ?_
  refine g_iconst d_X7_fault_1 ik_0 ?_
  refine mm_putI d_X7_fault_2 fl_7_62 sp_M rfl ?_
  refine g_aload_n d_X7_fault_5 rfl ?_
  refine mm_getV (v := h 13 6) d_X7_fault_6 fl_7_145 sp_M rfl ((hs_b (by decide)).trans hR.2.2.1.1.symm) ?_
  refine h_iret d_X7_fault_9 rfl ?_
  exact ⟨by rw [mu_low (by decide)], _, _, rfl, hR.fr fr_thrown⟩
theorem nI_predI {t : Nat} (h : t < 2 ^ 31) : (nI t - 1).toInt = (t : Int) - 1 := by
  rcases Nat.eq_zero_or_pos t with e | e
  · subst e; decide
  · rw [show (1 : Int32) = nI 1 from rfl, pk_sub e, nI_toInt (by omega)]
    omega
theorem op_trace {h w : Hv} (hR : RelP h w) {x : Int32} : OPI M_X6_trace M_X7_trace 1 1 [.int x] (mu h w) := by
  obtain ⟨t, ht0, ht1, ht2, ht3⟩ := hR.2.2.2.2.2
  have e1 : (nI t).toInt = t := nI_toInt (by omega)
  have e2 := nI_predI (t := t) (by omega)
  refine MtH.of [some (.ref 0), some (.int x)] pl_X6 rfl rfl ?_
  refine g_iload_n d_X6_trace_0 rfl ?_
  refine g_if_lt d_X6_trace_1 (fun c1 => ?_) (fun c1 => ?_)
  · refine g_ldc d_X6_trace_27 kc_X6_220 ?_
    refine h_iret d_X6_trace_29 rfl ?_
    refine ⟨_, rfl, ?_⟩
    refine MtH.of [some (.ref 360), some (.int x)] pl_X7 rfl rfl ?_
    refine g_aload_n d_X7_trace_0 rfl ?_
    refine g_iconst d_X7_trace_1 ik_0 ?_
    refine mm_putI d_X7_trace_2 fl_7_62 sp_M rfl ?_
    refine g_iload_n d_X7_trace_5 rfl ?_
    refine g_iconst d_X7_trace_6 ik_0 ?_
    refine g_aload_n d_X7_trace_7 rfl ?_
    refine mm_getV (v := nI t) d_X7_trace_8 fl_7_264 sp_M rfl ((hs_b (by decide)).trans ht2) ?_
    refine g_iconst d_X7_trace_11 ik_1 ?_
    refine g_isub d_X7_trace_12 ?_
    refine h_S3i d_X7_trace_13 cl_7_70 m7_in (Nat.le_of_ble_eq_true rfl) (by decide) ?_
    refine g_if_eq d_X7_trace_16 (fun c16 => ?_) (fun c16 => ?_)
    · refine g_ldc d_X7_trace_28 kc_X7_207 ?_
      refine h_iret d_X7_trace_30 rfl ?_
      exact ⟨rfl, _, _, rfl, hR.fr fr_thrown⟩
    · exfalso
      simp only [b2i_eq0, b2i_ne0, Int32.lt_iff_toInt_lt, Int32.le_iff_toInt_le, t_0, t_1, t_2, t_3, t_4, t_5, t_6, t_7, t_8, t_9, t_10, t_11, t_12, t_20, t_24, t_40, t_50, t_60, t_99, t_110, t_255, t_999, t_999999, t_m1, e1, e2] at *
      omega
  · refine g_iload_n d_X6_trace_4 rfl ?_
    refine g_aload_n d_X6_trace_5 rfl ?_
    refine h_getR d_X6_trace_6 fl_6_54 sp_L rfl ?_
    refine h_getV (v := nI t) d_X6_trace_9 fl_6_349 sp_Asks rfl ((mu_low (by decide)).trans ht1) ?_
    refine g_icmp_ge d_X6_trace_12 (fun c12 => ?_) (fun c12 => ?_)
    · refine g_ldc d_X6_trace_27 kc_X6_220 ?_
      refine h_iret d_X6_trace_29 rfl ?_
      refine ⟨_, rfl, ?_⟩
      refine MtH.of [some (.ref 360), some (.int x)] pl_X7 rfl rfl ?_
      refine g_aload_n d_X7_trace_0 rfl ?_
      refine g_iconst d_X7_trace_1 ik_0 ?_
      refine mm_putI d_X7_trace_2 fl_7_62 sp_M rfl ?_
      refine g_iload_n d_X7_trace_5 rfl ?_
      refine g_iconst d_X7_trace_6 ik_0 ?_
      refine g_aload_n d_X7_trace_7 rfl ?_
      refine mm_getV (v := nI t) d_X7_trace_8 fl_7_264 sp_M rfl ((hs_b (by decide)).trans ht2) ?_
      refine g_iconst d_X7_trace_11 ik_1 ?_
      refine g_isub d_X7_trace_12 ?_
      refine h_S3i d_X7_trace_13 cl_7_70 m7_in (Nat.le_of_ble_eq_true rfl) (by decide) ?_
      refine g_if_eq d_X7_trace_16 (fun c16 => ?_) (fun c16 => ?_)
      · refine g_ldc d_X7_trace_28 kc_X7_207 ?_
        refine h_iret d_X7_trace_30 rfl ?_
        exact ⟨rfl, _, _, rfl, hR.fr fr_thrown⟩
      · exfalso
        simp only [b2i_eq0, b2i_ne0, Int32.lt_iff_toInt_lt, Int32.le_iff_toInt_le, t_0, t_1, t_2, t_3, t_4, t_5, t_6, t_7, t_8, t_9, t_10, t_11, t_12, t_20, t_24, t_40, t_50, t_60, t_99, t_110, t_255, t_999, t_999999, t_m1, e1, e2] at *
        omega
    · obtain ⟨k, hk, ex⟩ := rng c1 c12 (by omega)
      refine g_aload_n d_X6_trace_15 rfl ?_
      refine h_getR d_X6_trace_16 fl_6_54 sp_L rfl ?_
      refine h_getR d_X6_trace_19 fl_6_352 sp_Asks rfl ?_
      refine g_iload_n d_X6_trace_22 rfl ?_
      refine h_aldV (k := k) (v := w 15 k) d_X6_trace_23 sp_numbers ex (by omega) (by decide) ((mu_low (by decide)).trans (ht3 k hk)) ?_
      refine g_goto d_X6_trace_24 ?_
      refine h_iret d_X6_trace_29 rfl ?_
      refine ⟨_, rfl, ?_⟩
      refine MtH.of [some (.ref 360), some (.int x)] pl_X7 rfl rfl ?_
      refine g_aload_n d_X7_trace_0 rfl ?_
      refine g_iconst d_X7_trace_1 ik_0 ?_
      refine mm_putI d_X7_trace_2 fl_7_62 sp_M rfl ?_
      refine g_iload_n d_X7_trace_5 rfl ?_
      refine g_iconst d_X7_trace_6 ik_0 ?_
      refine g_aload_n d_X7_trace_7 rfl ?_
      refine mm_getV (v := nI t) d_X7_trace_8 fl_7_264 sp_M rfl ((hs_b (by decide)).trans ht2) ?_
      refine g_iconst d_X7_trace_11 ik_1 ?_
      refine g_isub d_X7_trace_12 ?_
      refine h_S3i d_X7_trace_13 cl_7_70 m7_in (Nat.le_of_ble_eq_true rfl) (by decide) ?_
      refine g_if_eq d_X7_trace_16 (fun c16 => ?_) (fun c16 => ?_)
      · exfalso
        simp only [b2i_eq0, b2i_ne0, Int32.lt_iff_toInt_lt, Int32.le_iff_toInt_le, t_0, t_1, t_2, t_3, t_4, t_5, t_6, t_7, t_8, t_9, t_10, t_11, t_12, t_20, t_24, t_40, t_50, t_60, t_99, t_110, t_255, t_999, t_999999, t_m1, e1, e2] at *
        omega
      · refine g_aload_n d_X7_trace_19 rfl ?_
        refine h_getR d_X7_trace_20 fl_7_53 sp_M rfl ?_
        refine g_iload_n d_X7_trace_23 rfl ?_
        refine mm_aldV (k := k) (v := w 15 k) d_X7_trace_24 (j := 15) sp_m_traced rfl (by decide) ex (by omega) (by decide) (hs_j (by decide)) ?_
        refine g_goto d_X7_trace_25 ?_
        refine h_iret d_X7_trace_30 rfl ?_
        exact ⟨rfl, _, _, rfl, hR.fr fr_thrown⟩
theorem rngI {x : Int32} {B : Nat} (h0 : 0 ≤ x.toInt) (h1 : x.toInt < B) : ∃ r, r < B ∧ x = nI r := by
  refine ⟨x.toInt.toNat, by omega, ?_⟩
  apply Int32.toInt_inj.mp
  have := Int32.toInt_lt x
  rw [nI_toInt (by omega)]
  omega
def zW (w : Hv) (r j : Nat) : Hv := fun x y => if x = 1 ∧ 40 * r ≤ y ∧ y < 40 * r + j then 0 else w x y
theorem zW_0 {w : Hv} {r : Nat} : zW w r 0 = w := by funext x y; exact if_neg (by omega)
theorem zW_s {w : Hv} {r j : Nat} : zW w r (j + 1) = hset (zW w r j) 1 (40 * r + j) 0 := by
  funext x y
  unfold zW hset
  dsimp only
  by_cases h1 : x = 1 ∧ y = 40 * r + j
  · rw [if_pos h1, if_pos (by omega)]
  · rw [if_neg h1]
    by_cases h2 : x = 1 ∧ 40 * r ≤ y ∧ y < 40 * r + j
    · rw [if_pos h2, if_pos (by omega)]
    · rw [if_neg h2, if_neg (by omega)]
theorem mu_zr {h w : Hv} {r j : Nat} (hr : r < 8) : zr (mu h w) r j = mu (zr h r j) w := by
  funext x y
  unfold zr mu blk
  dsimp only
  by_cases h1 : x = 5 + r ∧ y < j
  · rw [if_pos h1, if_neg (by omega), if_pos h1]
  · rw [if_neg h1]
    by_cases h2 : 360 ≤ x ∧ x < 360 + 18
    · rw [if_pos h2, if_pos h2]
    · rw [if_neg h2, if_neg h2, if_neg h1]
theorem zr_o {h : Hv} {r j x y : Nat} (hx : ¬ (x = 5 + r ∧ y < j)) : zr h r j x y = h x y := if_neg hx
theorem zW_o {w : Hv} {r j x y : Nat} (hx : ¬ (x = 1 ∧ 40 * r ≤ y ∧ y < 40 * r + j)) : zW w r j x y = w x y := if_neg hx
theorem RRow.cg {h h' w w' : Hv} {r : Nat} (a : RRow h w r) (e2 : h' 2 r = h 2 r) (e3 : h' 3 r = h 3 r) (ei : ∀ i, i < 40 → h' (5 + r) i = h (5 + r) i) (w2 : w' 2 r = w 2 r) (w3 : w' 3 r = w 3 r) (wi : ∀ i, i < 40 → w' 1 (40 * r + i) = w 1 (40 * r + i)) : RRow h' w' r := by
  unfold RRow
  rw [e2, e3, w2, w3]
  rcases a with q | ⟨a, n, q1, q2, q3, q4, q5, q6, q7⟩
  · exact Or.inl q
  · exact Or.inr ⟨a, n, q1, q2, q3, q4, q5, q6, fun i hi => by rw [ei i (by omega), wi i (by omega)]; exact q7 i hi⟩
theorem rel_row {h w : Hv} (hR : RelP h w) {r a n : Nat} (hr : r < 8) (ha : a < 3) (hn : n < 41) : RelP (hset (zr (hset (hset h 2 r (nI a)) 3 r (nI n)) r 40) 0 9 0) (hset (zW (hset (hset (hset w 0 0 0) 2 r (nI a)) 3 r (nI n)) r n) 0 4 0) := by
  refine hR.rows (fun x y p q => ?_) (fun x y p q => ?_) ?_ (fun q hq => ?_)
  · rw [hs_ne p, zr_o (by omega), hs_j (by omega), hs_j (by omega)]
  · rw [hs_ne (by omega), zW_o (by omega), hs_j (by omega), hs_j (by omega), hs_ne (by omega)]
  · unfold RStat; rw [hs_at, hs_at]
  · by_cases e : q = r
    · subst e
      refine Or.inr ⟨a, n, by omega, by omega, ?_, ?_, ?_, ?_, fun i hi => ?_⟩
      · rw [hs_j (by decide), zr_o (by omega), hs_j (by decide), hs_at]
      · rw [hs_j (by decide), zW_o (by omega), hs_j (by decide), hs_at]
      · rw [hs_j (by decide), zr_o (by omega), hs_at]
      · rw [hs_j (by decide), zW_o (by omega), hs_at]
      · rw [hs_j (by omega), hs_j (by decide)]
        unfold zr zW
        rw [if_pos (by omega), if_pos (by omega)]
    · refine (hR.2.1 q hq).cg ?_ ?_ (fun i hi => ?_) ?_ ?_ (fun i hi => ?_)
      · rw [hs_j (by decide), zr_o (by omega), hs_j (by decide), hs_b e]
      · rw [hs_j (by decide), zr_o (by omega), hs_b e, hs_j (by decide)]
      · rw [hs_j (by omega), zr_o (by omega), hs_j (by omega), hs_j (by omega)]
      · rw [hs_j (by decide), zW_o (by omega), hs_j (by decide), hs_b e, hs_j (by decide)]
      · rw [hs_j (by decide), zW_o (by omega), hs_b e, hs_j (by decide), hs_j (by decide)]
      · rw [hs_j (by decide), zW_o (by omega), hs_j (by decide), hs_j (by decide), hs_j (by decide)]
theorem lp_row {h w : Hv} {r a m : Nat} (hr : r < 8) (hn : m < 41) {P : Option Value → Hv → Prop} (kx : GdH M_X7_row 2 82 [some (.ref 360), some (.int (nI r)), some (.int (nI a)), some (.int (nI m)), some (.int (nI m))] [] (mu h (zW w r m)) P) : ∀ (n j : Nat), j + n = m → GdH M_X7_row 2 57 [some (.ref 360), some (.int (nI r)), some (.int (nI a)), some (.int (nI m)), some (.int (nI j))] [] (mu h (zW w r j)) P := by
  intro n
  induction n with
  | zero =>
    intro j hj
    have hj' : j = m := by omega
    rw [hj']
    refine g_iload d_X7_row_57 rfl ?_
    refine g_iload_n d_X7_row_59 rfl ?_
    refine g_icmp_ge d_X7_row_60 (fun c60 => ?_) (fun c60 => absurd (nI_le (a := m) (b := m) (Nat.le_refl _) (by omega)) c60)
    exact kx
  | succ n ih =>
    intro j hj
    refine g_iload d_X7_row_57 rfl ?_
    refine g_iload_n d_X7_row_59 rfl ?_
    refine g_icmp_ge d_X7_row_60 (fun c60 => absurd c60 (nI_ge (a := j) (b := m) (by omega) (by omega))) (fun c60 => ?_)
    refine g_aload_n d_X7_row_63 rfl ?_
    refine h_getR d_X7_row_64 fl_7_7 sp_M rfl ?_
    refine g_bipush d_X7_row_67 bk_40 ?_
    refine g_iload_n d_X7_row_69 rfl ?_
    refine g_imul d_X7_row_70 ?_
    refine g_iload d_X7_row_71 rfl ?_
    refine g_iadd d_X7_row_73 ?_
    refine g_iconst d_X7_row_74 ik_0 ?_
    refine mm_astE (k := ((40 * r) + j)) d_X7_row_75 (j := 1) sp_m_rows rfl (by decide) (nAdd (nMul rfl rfl) rfl) (by omega) (by decide) ?_
    refine w_iinc (L' := [_, _, _, _, _]) d_X7_row_76 ik_1 rfl rfl rfl rfl ?_
    refine g_goto d_X7_row_79 ?_
    have q := ih (j + 1) (by omega)
    rw [zW_s] at q
    rw [nI_1]
    exact q
theorem op_row {h w : Hv} (hR : RelP h w) {x y z : Int32} : OPI M_X6_row M_X7_row 2 2 [.int x, .int y, .int z] (mu h w) := by
  refine MtH.of [some (.ref 0), some (.int x), some (.int y), some (.int z)] pl_X6 rfl rfl ?_
  refine g_iload_n d_X6_row_0 rfl ?_
  refine h_S1i d_X6_row_1 cl_6_62 m_isOne (Nat.le_of_ble_eq_true rfl) (by decide) ?_
  refine g_if_eq d_X6_row_4 (fun c4 => ?_) (fun c4 => ?_)
  · refine g_ldc d_X6_row_22 kc_X6_66 ?_
    refine h_iret d_X6_row_24 rfl ?_
    refine ⟨_, rfl, ?_⟩
    refine MtH.of [some (.ref 360), some (.int x), some (.int y), some (.int z), none] pl_X7 rfl rfl ?_
    refine g_aload_n d_X7_row_0 rfl ?_
    refine g_iconst d_X7_row_1 ik_0 ?_
    refine mm_putI d_X7_row_2 fl_7_62 sp_M rfl ?_
    refine g_iload_n d_X7_row_5 rfl ?_
    refine h_S1i d_X7_row_6 cl_7_74 m7_isRow (Nat.le_of_ble_eq_true rfl) (by decide) ?_
    refine g_if_eq d_X7_row_9 (fun c9 => ?_) (fun c9 => ?_)
    · refine g_ldc d_X7_row_27 kc_X7_78 ?_
      refine h_iret d_X7_row_29 rfl ?_
      exact ⟨rfl, _, _, rfl, hR.fr fr_thrown⟩
    · refine g_iload_n d_X7_row_12 rfl ?_
      refine g_iconst d_X7_row_13 ik_0 ?_
      refine g_iconst d_X7_row_14 ik_2 ?_
      refine h_S3i d_X7_row_15 cl_7_70 m7_in (Nat.le_of_ble_eq_true rfl) (by decide) ?_
      refine g_if_eq d_X7_row_18 (fun c18 => ?_) (fun c18 => ?_)
      · refine g_ldc d_X7_row_27 kc_X7_78 ?_
        refine h_iret d_X7_row_29 rfl ?_
        exact ⟨rfl, _, _, rfl, hR.fr fr_thrown⟩
      · refine g_iload_n d_X7_row_21 rfl ?_
        refine g_bipush d_X7_row_22 bk_40 ?_
        refine g_icmp_le d_X7_row_24 (fun c24 => ?_) (fun c24 => ?_)
        · exfalso
          simp only [b2i_eq0, b2i_ne0, Int32.lt_iff_toInt_lt, Int32.le_iff_toInt_le, t_0, t_1, t_2, t_3, t_4, t_5, t_6, t_7, t_8, t_9, t_10, t_11, t_12, t_20, t_24, t_40, t_50, t_60, t_99, t_110, t_255, t_999, t_999999, t_m1] at *
          omega
        · refine g_ldc d_X7_row_27 kc_X7_78 ?_
          refine h_iret d_X7_row_29 rfl ?_
          exact ⟨rfl, _, _, rfl, hR.fr fr_thrown⟩
  · refine g_iload_n d_X6_row_7 rfl ?_
    refine g_if_lt d_X6_row_8 (fun c8 => ?_) (fun c8 => ?_)
    · refine g_ldc d_X6_row_22 kc_X6_66 ?_
      refine h_iret d_X6_row_24 rfl ?_
      refine ⟨_, rfl, ?_⟩
      refine MtH.of [some (.ref 360), some (.int x), some (.int y), some (.int z), none] pl_X7 rfl rfl ?_
      refine g_aload_n d_X7_row_0 rfl ?_
      refine g_iconst d_X7_row_1 ik_0 ?_
      refine mm_putI d_X7_row_2 fl_7_62 sp_M rfl ?_
      refine g_iload_n d_X7_row_5 rfl ?_
      refine h_S1i d_X7_row_6 cl_7_74 m7_isRow (Nat.le_of_ble_eq_true rfl) (by decide) ?_
      refine g_if_eq d_X7_row_9 (fun c9 => ?_) (fun c9 => ?_)
      · refine g_ldc d_X7_row_27 kc_X7_78 ?_
        refine h_iret d_X7_row_29 rfl ?_
        exact ⟨rfl, _, _, rfl, hR.fr fr_thrown⟩
      · refine g_iload_n d_X7_row_12 rfl ?_
        refine g_iconst d_X7_row_13 ik_0 ?_
        refine g_iconst d_X7_row_14 ik_2 ?_
        refine h_S3i d_X7_row_15 cl_7_70 m7_in (Nat.le_of_ble_eq_true rfl) (by decide) ?_
        refine g_if_eq d_X7_row_18 (fun c18 => ?_) (fun c18 => ?_)
        · refine g_ldc d_X7_row_27 kc_X7_78 ?_
          refine h_iret d_X7_row_29 rfl ?_
          exact ⟨rfl, _, _, rfl, hR.fr fr_thrown⟩
        · refine g_iload_n d_X7_row_21 rfl ?_
          refine g_bipush d_X7_row_22 bk_40 ?_
          refine g_icmp_le d_X7_row_24 (fun c24 => ?_) (fun c24 => ?_)
          · exfalso
            simp only [b2i_eq0, b2i_ne0, Int32.lt_iff_toInt_lt, Int32.le_iff_toInt_le, t_0, t_1, t_2, t_3, t_4, t_5, t_6, t_7, t_8, t_9, t_10, t_11, t_12, t_20, t_24, t_40, t_50, t_60, t_99, t_110, t_255, t_999, t_999999, t_m1] at *
            omega
          · refine g_ldc d_X7_row_27 kc_X7_78 ?_
            refine h_iret d_X7_row_29 rfl ?_
            exact ⟨rfl, _, _, rfl, hR.fr fr_thrown⟩
    · refine g_iload_n d_X6_row_11 rfl ?_
      refine g_iconst d_X6_row_12 ik_3 ?_
      refine g_icmp_ge d_X6_row_13 (fun c13 => ?_) (fun c13 => ?_)
      · refine g_ldc d_X6_row_22 kc_X6_66 ?_
        refine h_iret d_X6_row_24 rfl ?_
        refine ⟨_, rfl, ?_⟩
        refine MtH.of [some (.ref 360), some (.int x), some (.int y), some (.int z), none] pl_X7 rfl rfl ?_
        refine g_aload_n d_X7_row_0 rfl ?_
        refine g_iconst d_X7_row_1 ik_0 ?_
        refine mm_putI d_X7_row_2 fl_7_62 sp_M rfl ?_
        refine g_iload_n d_X7_row_5 rfl ?_
        refine h_S1i d_X7_row_6 cl_7_74 m7_isRow (Nat.le_of_ble_eq_true rfl) (by decide) ?_
        refine g_if_eq d_X7_row_9 (fun c9 => ?_) (fun c9 => ?_)
        · refine g_ldc d_X7_row_27 kc_X7_78 ?_
          refine h_iret d_X7_row_29 rfl ?_
          exact ⟨rfl, _, _, rfl, hR.fr fr_thrown⟩
        · refine g_iload_n d_X7_row_12 rfl ?_
          refine g_iconst d_X7_row_13 ik_0 ?_
          refine g_iconst d_X7_row_14 ik_2 ?_
          refine h_S3i d_X7_row_15 cl_7_70 m7_in (Nat.le_of_ble_eq_true rfl) (by decide) ?_
          refine g_if_eq d_X7_row_18 (fun c18 => ?_) (fun c18 => ?_)
          · refine g_ldc d_X7_row_27 kc_X7_78 ?_
            refine h_iret d_X7_row_29 rfl ?_
            exact ⟨rfl, _, _, rfl, hR.fr fr_thrown⟩
          · refine g_iload_n d_X7_row_21 rfl ?_
            refine g_bipush d_X7_row_22 bk_40 ?_
            refine g_icmp_le d_X7_row_24 (fun c24 => ?_) (fun c24 => ?_)
            · exfalso
              simp only [b2i_eq0, b2i_ne0, Int32.lt_iff_toInt_lt, Int32.le_iff_toInt_le, t_0, t_1, t_2, t_3, t_4, t_5, t_6, t_7, t_8, t_9, t_10, t_11, t_12, t_20, t_24, t_40, t_50, t_60, t_99, t_110, t_255, t_999, t_999999, t_m1] at *
              omega
            · refine g_ldc d_X7_row_27 kc_X7_78 ?_
              refine h_iret d_X7_row_29 rfl ?_
              exact ⟨rfl, _, _, rfl, hR.fr fr_thrown⟩
      · refine g_iload_n d_X6_row_16 rfl ?_
        refine g_bipush d_X6_row_17 bk_40 ?_
        refine g_icmp_le d_X6_row_19 (fun c19 => ?_) (fun c19 => ?_)
        · refine g_iload_n d_X6_row_25 rfl ?_
          refine g_if_ge d_X6_row_26 (fun c26 => ?_) (fun c26 => ?_)
          · obtain ⟨r, hr, rfl⟩ := rngI (x := x) (B := 8) (by simp only [b2i_eq0, b2i_ne0, Int32.lt_iff_toInt_lt, Int32.le_iff_toInt_le, t_0, t_1, t_2, t_3, t_4, t_5, t_6, t_7, t_8, t_9, t_10, t_11, t_12, t_20, t_24, t_40, t_50, t_60, t_99, t_110, t_255, t_999, t_999999, t_m1] at *; omega) (by simp only [b2i_eq0, b2i_ne0, Int32.lt_iff_toInt_lt, Int32.le_iff_toInt_le, t_0, t_1, t_2, t_3, t_4, t_5, t_6, t_7, t_8, t_9, t_10, t_11, t_12, t_20, t_24, t_40, t_50, t_60, t_99, t_110, t_255, t_999, t_999999, t_m1] at *; omega)
            have er : (nI r).toInt = r := nI_toInt (by omega)
            obtain ⟨a, ha, rfl⟩ := rngI (x := y) (B := 3) (by simp only [b2i_eq0, b2i_ne0, Int32.lt_iff_toInt_lt, Int32.le_iff_toInt_le, t_0, t_1, t_2, t_3, t_4, t_5, t_6, t_7, t_8, t_9, t_10, t_11, t_12, t_20, t_24, t_40, t_50, t_60, t_99, t_110, t_255, t_999, t_999999, t_m1, er] at *; omega) (by simp only [b2i_eq0, b2i_ne0, Int32.lt_iff_toInt_lt, Int32.le_iff_toInt_le, t_0, t_1, t_2, t_3, t_4, t_5, t_6, t_7, t_8, t_9, t_10, t_11, t_12, t_20, t_24, t_40, t_50, t_60, t_99, t_110, t_255, t_999, t_999999, t_m1, er] at *; omega)
            have ea : (nI a).toInt = a := nI_toInt (by omega)
            obtain ⟨n, hn, rfl⟩ := rngI (x := z) (B := 41) (by simp only [b2i_eq0, b2i_ne0, Int32.lt_iff_toInt_lt, Int32.le_iff_toInt_le, t_0, t_1, t_2, t_3, t_4, t_5, t_6, t_7, t_8, t_9, t_10, t_11, t_12, t_20, t_24, t_40, t_50, t_60, t_99, t_110, t_255, t_999, t_999999, t_m1, er, ea] at *; omega) (by simp only [b2i_eq0, b2i_ne0, Int32.lt_iff_toInt_lt, Int32.le_iff_toInt_le, t_0, t_1, t_2, t_3, t_4, t_5, t_6, t_7, t_8, t_9, t_10, t_11, t_12, t_20, t_24, t_40, t_50, t_60, t_99, t_110, t_255, t_999, t_999999, t_m1, er, ea] at *; omega)
            have en : (nI n).toInt = n := nI_toInt (by omega)
            refine g_aload_n d_X6_row_35 rfl ?_
            refine h_getR d_X6_row_36 fl_6_10 sp_L rfl ?_
            refine g_iload_n d_X6_row_39 rfl ?_
            refine g_iload_n d_X6_row_40 rfl ?_
            refine g_iload_n d_X6_row_41 rfl ?_
            refine h_V3v d_X6_row_42 cl_6_71 (m_make rfl hr) sp_Rows (by decide) rfl (Nat.le_of_ble_eq_true rfl) (by decide) ?_
            refine g_aload_n d_X6_row_45 rfl ?_
            refine g_iload_n d_X6_row_46 rfl ?_
            refine h_V1i d_X6_row_47 cl_6_75 m6_foundNothing sp_L (by decide) rfl (Nat.le_of_ble_eq_true rfl) (by decide) ?_
            refine h_iret d_X6_row_50 rfl ?_
            refine ⟨_, rfl, ?_⟩
            rw [mu_hset (a := 2) (by decide), mu_hset (a := 3) (by decide), mu_zr hr, mu_hset (a := 0) (by decide)]
            refine MtH.of [some (.ref 360), some (.int (nI r)), some (.int (nI a)), some (.int (nI n)), none] pl_X7 rfl rfl ?_
            refine g_aload_n d_X7_row_0 rfl ?_
            refine g_iconst d_X7_row_1 ik_0 ?_
            refine mm_putI d_X7_row_2 fl_7_62 sp_M rfl ?_
            refine g_iload_n d_X7_row_5 rfl ?_
            refine h_S1i d_X7_row_6 cl_7_74 m7_isRow (Nat.le_of_ble_eq_true rfl) (by decide) ?_
            refine g_if_eq d_X7_row_9 (fun c9 => ?_) (fun c9 => ?_)
            · exfalso
              simp only [b2i_eq0, b2i_ne0, Int32.lt_iff_toInt_lt, Int32.le_iff_toInt_le, t_0, t_1, t_2, t_3, t_4, t_5, t_6, t_7, t_8, t_9, t_10, t_11, t_12, t_20, t_24, t_40, t_50, t_60, t_99, t_110, t_255, t_999, t_999999, t_m1, er, ea, en] at *
              omega
            · refine g_iload_n d_X7_row_12 rfl ?_
              refine g_iconst d_X7_row_13 ik_0 ?_
              refine g_iconst d_X7_row_14 ik_2 ?_
              refine h_S3i d_X7_row_15 cl_7_70 m7_in (Nat.le_of_ble_eq_true rfl) (by decide) ?_
              refine g_if_eq d_X7_row_18 (fun c18 => ?_) (fun c18 => ?_)
              · exfalso
                simp only [b2i_eq0, b2i_ne0, Int32.lt_iff_toInt_lt, Int32.le_iff_toInt_le, t_0, t_1, t_2, t_3, t_4, t_5, t_6, t_7, t_8, t_9, t_10, t_11, t_12, t_20, t_24, t_40, t_50, t_60, t_99, t_110, t_255, t_999, t_999999, t_m1, er, ea, en] at *
                omega
              · refine g_iload_n d_X7_row_21 rfl ?_
                refine g_bipush d_X7_row_22 bk_40 ?_
                refine g_icmp_le d_X7_row_24 (fun c24 => ?_) (fun c24 => ?_)
                · refine g_iload_n d_X7_row_30 rfl ?_
                  refine g_if_ge d_X7_row_31 (fun c31 => ?_) (fun c31 => ?_)
                  · refine g_aload_n d_X7_row_40 rfl ?_
                    refine h_getR d_X7_row_41 fl_7_13 sp_M rfl ?_
                    refine g_iload_n d_X7_row_44 rfl ?_
                    refine g_iload_n d_X7_row_45 rfl ?_
                    refine mm_astE (k := r) d_X7_row_46 (j := 2) sp_m_lane rfl (by decide) rfl (by omega) (by decide) ?_
                    refine g_aload_n d_X7_row_47 rfl ?_
                    refine h_getR d_X7_row_48 fl_7_16 sp_M rfl ?_
                    refine g_iload_n d_X7_row_51 rfl ?_
                    refine g_iload_n d_X7_row_52 rfl ?_
                    refine mm_astE (k := r) d_X7_row_53 (j := 3) sp_m_rowSize rfl (by decide) rfl (by omega) (by decide) ?_
                    refine g_iconst d_X7_row_54 ik_0 ?_
                    refine w_istore (L' := [_, _, _, _, _]) d_X7_row_55 rfl rfl rfl ?_
                    have kx : GdH M_X7_row 2 82 [some (.ref 360), some (.int (nI r)), some (.int (nI a)), some (.int (nI n)), some (.int (nI n))] [] (mu (hset (zr (hset (hset h 2 r (nI a)) 3 r (nI n)) r 40) 0 9 0) (zW (hset (hset (hset w 0 0 0) 2 r (nI a)) 3 r (nI n)) r n)) (fun v' h'' => v' = some (.int (nI n)) ∧ Rel h'') := by
                      refine g_aload_n d_X7_row_82 rfl ?_
                      refine g_iload_n d_X7_row_83 rfl ?_
                      refine h_V1i d_X7_row_84 cl_7_83 m7_well sp_M (by decide) rfl (Nat.le_of_ble_eq_true rfl) (by decide) ?_
                      refine h_iret d_X7_row_87 rfl ?_
                      exact ⟨rfl, _, _, rfl, rel_row hR hr ha hn⟩
                    have kz := lp_row hr hn kx n 0 (by omega)
                    rw [zW_0] at kz
                    exact kz
                  · exfalso
                    simp only [b2i_eq0, b2i_ne0, Int32.lt_iff_toInt_lt, Int32.le_iff_toInt_le, t_0, t_1, t_2, t_3, t_4, t_5, t_6, t_7, t_8, t_9, t_10, t_11, t_12, t_20, t_24, t_40, t_50, t_60, t_99, t_110, t_255, t_999, t_999999, t_m1, er, ea, en] at *
                    omega
                · exfalso
                  simp only [b2i_eq0, b2i_ne0, Int32.lt_iff_toInt_lt, Int32.le_iff_toInt_le, t_0, t_1, t_2, t_3, t_4, t_5, t_6, t_7, t_8, t_9, t_10, t_11, t_12, t_20, t_24, t_40, t_50, t_60, t_99, t_110, t_255, t_999, t_999999, t_m1, er, ea, en] at *
                  omega
          · refine g_aload_n d_X6_row_29 rfl ?_
            refine g_iconst d_X6_row_30 ik_4 ?_
            refine h_V1i d_X6_row_31 cl_6_67 m6_found sp_L (by decide) rfl (Nat.le_of_ble_eq_true rfl) (by decide) ?_
            refine h_iret d_X6_row_34 rfl ?_
            refine ⟨_, rfl, ?_⟩
            rw [mu_hset (by decide)]
            refine MtH.of [some (.ref 360), some (.int x), some (.int y), some (.int z), none] pl_X7 rfl rfl ?_
            refine g_aload_n d_X7_row_0 rfl ?_
            refine g_iconst d_X7_row_1 ik_0 ?_
            refine mm_putI d_X7_row_2 fl_7_62 sp_M rfl ?_
            refine g_iload_n d_X7_row_5 rfl ?_
            refine h_S1i d_X7_row_6 cl_7_74 m7_isRow (Nat.le_of_ble_eq_true rfl) (by decide) ?_
            refine g_if_eq d_X7_row_9 (fun c9 => ?_) (fun c9 => ?_)
            · exfalso
              simp only [b2i_eq0, b2i_ne0, Int32.lt_iff_toInt_lt, Int32.le_iff_toInt_le, t_0, t_1, t_2, t_3, t_4, t_5, t_6, t_7, t_8, t_9, t_10, t_11, t_12, t_20, t_24, t_40, t_50, t_60, t_99, t_110, t_255, t_999, t_999999, t_m1] at *
              omega
            · refine g_iload_n d_X7_row_12 rfl ?_
              refine g_iconst d_X7_row_13 ik_0 ?_
              refine g_iconst d_X7_row_14 ik_2 ?_
              refine h_S3i d_X7_row_15 cl_7_70 m7_in (Nat.le_of_ble_eq_true rfl) (by decide) ?_
              refine g_if_eq d_X7_row_18 (fun c18 => ?_) (fun c18 => ?_)
              · exfalso
                simp only [b2i_eq0, b2i_ne0, Int32.lt_iff_toInt_lt, Int32.le_iff_toInt_le, t_0, t_1, t_2, t_3, t_4, t_5, t_6, t_7, t_8, t_9, t_10, t_11, t_12, t_20, t_24, t_40, t_50, t_60, t_99, t_110, t_255, t_999, t_999999, t_m1] at *
                omega
              · refine g_iload_n d_X7_row_21 rfl ?_
                refine g_bipush d_X7_row_22 bk_40 ?_
                refine g_icmp_le d_X7_row_24 (fun c24 => ?_) (fun c24 => ?_)
                · refine g_iload_n d_X7_row_30 rfl ?_
                  refine g_if_ge d_X7_row_31 (fun c31 => ?_) (fun c31 => ?_)
                  · exfalso
                    simp only [b2i_eq0, b2i_ne0, Int32.lt_iff_toInt_lt, Int32.le_iff_toInt_le, t_0, t_1, t_2, t_3, t_4, t_5, t_6, t_7, t_8, t_9, t_10, t_11, t_12, t_20, t_24, t_40, t_50, t_60, t_99, t_110, t_255, t_999, t_999999, t_m1] at *
                    omega
                  · refine g_aload_n d_X7_row_34 rfl ?_
                    refine g_iconst d_X7_row_35 ik_4 ?_
                    refine h_V1i d_X7_row_36 cl_7_79 m7_found sp_M (by decide) rfl (Nat.le_of_ble_eq_true rfl) (by decide) ?_
                    refine h_iret d_X7_row_39 rfl ?_
                    exact ⟨rfl, _, _, rfl, hR.stat 4⟩
                · exfalso
                  simp only [b2i_eq0, b2i_ne0, Int32.lt_iff_toInt_lt, Int32.le_iff_toInt_le, t_0, t_1, t_2, t_3, t_4, t_5, t_6, t_7, t_8, t_9, t_10, t_11, t_12, t_20, t_24, t_40, t_50, t_60, t_99, t_110, t_255, t_999, t_999999, t_m1] at *
                  omega
        · refine g_ldc d_X6_row_22 kc_X6_66 ?_
          refine h_iret d_X6_row_24 rfl ?_
          refine ⟨_, rfl, ?_⟩
          refine MtH.of [some (.ref 360), some (.int x), some (.int y), some (.int z), none] pl_X7 rfl rfl ?_
          refine g_aload_n d_X7_row_0 rfl ?_
          refine g_iconst d_X7_row_1 ik_0 ?_
          refine mm_putI d_X7_row_2 fl_7_62 sp_M rfl ?_
          refine g_iload_n d_X7_row_5 rfl ?_
          refine h_S1i d_X7_row_6 cl_7_74 m7_isRow (Nat.le_of_ble_eq_true rfl) (by decide) ?_
          refine g_if_eq d_X7_row_9 (fun c9 => ?_) (fun c9 => ?_)
          · refine g_ldc d_X7_row_27 kc_X7_78 ?_
            refine h_iret d_X7_row_29 rfl ?_
            exact ⟨rfl, _, _, rfl, hR.fr fr_thrown⟩
          · refine g_iload_n d_X7_row_12 rfl ?_
            refine g_iconst d_X7_row_13 ik_0 ?_
            refine g_iconst d_X7_row_14 ik_2 ?_
            refine h_S3i d_X7_row_15 cl_7_70 m7_in (Nat.le_of_ble_eq_true rfl) (by decide) ?_
            refine g_if_eq d_X7_row_18 (fun c18 => ?_) (fun c18 => ?_)
            · refine g_ldc d_X7_row_27 kc_X7_78 ?_
              refine h_iret d_X7_row_29 rfl ?_
              exact ⟨rfl, _, _, rfl, hR.fr fr_thrown⟩
            · refine g_iload_n d_X7_row_21 rfl ?_
              refine g_bipush d_X7_row_22 bk_40 ?_
              refine g_icmp_le d_X7_row_24 (fun c24 => ?_) (fun c24 => ?_)
              · exfalso
                simp only [b2i_eq0, b2i_ne0, Int32.lt_iff_toInt_lt, Int32.le_iff_toInt_le, t_0, t_1, t_2, t_3, t_4, t_5, t_6, t_7, t_8, t_9, t_10, t_11, t_12, t_20, t_24, t_40, t_50, t_60, t_99, t_110, t_255, t_999, t_999999, t_m1] at *
                omega
              · refine g_ldc d_X7_row_27 kc_X7_78 ?_
                refine h_iret d_X7_row_29 rfl ?_
                exact ⟨rfl, _, _, rfl, hR.fr fr_thrown⟩
