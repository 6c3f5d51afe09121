/-! OPS: count, as -/
def tT (w : Hv) : Nat → Int32
  | 0 => 0
  | n + 1 => tT w n + (if 0 ≤ w 3 n then 1 else 0)
theorem lp_rowsThere {h w : Hv} {P : Option Value → Hv → Prop} (kx : GdH M_X7_rowsThere 0 33 [some (.ref 360), some (.int (tT w 8)), some (.int (nI 8))] [] (mu h w) P) : ∀ (n j : Nat), j + n = 8 → GdH M_X7_rowsThere 0 4 [some (.ref 360), some (.int (tT w j)), some (.int (nI j))] [] (mu h w) P := by
  intro n
  induction n with
  | zero =>
    intro j hj
    have hj' : j = 8 := by omega
    rw [hj']
    refine g_iload_n d_X7_rowsThere_4 rfl ?_
    refine g_bipush d_X7_rowsThere_5 bk_8 ?_
    refine g_icmp_ge d_X7_rowsThere_7 (fun c7 => ?_) (fun c7 => absurd (nI_le (a := 8) (b := 8) (Nat.le_refl _) (by omega)) c7)
    exact kx
  | succ n ih =>
    intro j hj
    refine g_iload_n d_X7_rowsThere_4 rfl ?_
    refine g_bipush d_X7_rowsThere_5 bk_8 ?_
    refine g_icmp_ge d_X7_rowsThere_7 (fun c7 => absurd c7 (nI_ge (a := j) (b := 8) (by omega) (by omega))) (fun c7 => ?_)
    refine g_iload_n d_X7_rowsThere_10 rfl ?_
    refine g_aload_n d_X7_rowsThere_11 rfl ?_
    refine h_getR d_X7_rowsThere_12 fl_7_16 sp_M rfl ?_
    refine g_iload_n d_X7_rowsThere_15 rfl ?_
    refine mm_aldE (k := j) d_X7_rowsThere_16 (j := 3) sp_m_rowSize rfl (by decide) rfl (by omega) (by decide) ?_
    refine g_if_ge d_X7_rowsThere_17 (fun c17 => ?_) (fun c17 => ?_)
    · refine g_iconst d_X7_rowsThere_24 ik_1 ?_
      refine g_iadd d_X7_rowsThere_25 ?_
      refine w_istore_n (L' := [_, _, _]) d_X7_rowsThere_26 rfl rfl rfl ?_
      refine w_iinc (L' := [_, _, _]) d_X7_rowsThere_27 ik_1 rfl rfl rfl rfl ?_
      refine g_goto d_X7_rowsThere_30 ?_
      have q := ih (j + 1) (by omega)
      first | rw [tT, if_pos c17] at q | rw [tT, if_neg c17] at q
      rw [nI_1]
      exact q
    · refine g_iconst d_X7_rowsThere_20 ik_0 ?_
      refine g_goto d_X7_rowsThere_21 ?_
      refine g_iadd d_X7_rowsThere_25 ?_
      refine w_istore_n (L' := [_, _, _]) d_X7_rowsThere_26 rfl rfl rfl ?_
      refine w_iinc (L' := [_, _, _]) d_X7_rowsThere_27 ik_1 rfl rfl rfl rfl ?_
      refine g_goto d_X7_rowsThere_30 ?_
      have q := ih (j + 1) (by omega)
      first | rw [tT, if_pos c17] at q | rw [tT, if_neg c17] at q
      rw [nI_1]
      exact q
theorem m7_rowsThere {h w : Hv} : MtF M_X7_rowsThere 0 [.ref 360] (mu h w) (some (.int (tT w 8))) (mu h w) := by
  refine MtF.of [some (.ref 360), none, none] pl_X7 rfl rfl ?_
  refine g_iconst d_X7_rowsThere_0 ik_0 ?_
  refine w_istore_n (L' := [_, _, _]) d_X7_rowsThere_1 rfl rfl rfl ?_
  refine g_iconst d_X7_rowsThere_2 ik_0 ?_
  refine w_istore_n (L' := [_, _, _]) d_X7_rowsThere_3 rfl rfl rfl ?_
  refine lp_rowsThere ?_ 8 0 rfl
  refine g_iload_n d_X7_rowsThere_33 rfl ?_
  refine h_iret d_X7_rowsThere_34 rfl ?_
  exact ⟨rfl, rfl⟩
theorem rows_eq {h w : Hv} (hR : RRows h w) {v : Int32} : ∀ n, n ≤ 8 → rowsN (mu h w) n = tT (hset w 0 0 v) n
  | 0, _ => rfl
  | n + 1, hn => by
    rw [rowsN, tT, rows_eq hR n (by omega), mu_low (by decide), hs_j (by decide)]
    rcases hR n (by omega) with ⟨z1, z2⟩ | ⟨a, m, h1, h2, h3, h4, h5, h6, -⟩
    · rw [z1, z2, if_pos rfl, if_neg (by decide)]
    · rw [h3, h6, if_neg (nI_ne_m1 (by omega)), if_pos (show (0 : Int32) ≤ nI m from nI_le (a := 0) (b := m) (by omega) (by omega))]
def noG (w : Hv) : Hv := fun x y => if x = 0 then (if y = 0 then w 8 1 else if y = 1 then w 8 0 else if y = 2 then w 7 0 else if y = 3 then w 7 1 else w 8 2) else 0
theorem no_r0 {w : Hv} : Rep0 0 0 (noG w) w 7 8 := ⟨⟨rfl, rfl, rfl, rfl, rfl⟩, fun k hk => absurd hk (by omega), fun k hk => absurd hk (by omega)⟩
theorem m7_doneAll0 {h w : Hv} (hz : ∀ k, k < 5 → w 8 (13 + k) = 0) : MtF M_X7_doneAll 0 [.ref 360] (mu h w) (some (.int 0)) (mu h w) := by
  refine MtF.of [some (.ref 360), none, none] pl_X7 rfl rfl ?_
  refine g_iconst d_X7_doneAll_0 ik_0 ?_
  refine w_istore_n (L' := [_, _, _]) d_X7_doneAll_1 rfl rfl rfl ?_
  refine g_iconst d_X7_doneAll_2 ik_0 ?_
  refine w_istore_n (L' := [_, _, _]) d_X7_doneAll_3 rfl rfl rfl ?_
  refine lp_doneAll (g := fun _ _ => 0) hz ?_ 5 0 rfl
  refine g_iload_n d_X7_doneAll_27 rfl ?_
  refine h_iret d_X7_doneAll_28 rfl ?_
  exact ⟨rfl, rfl⟩
theorem RelP.cnt {h w : Hv} (hR : RelP h w) : ∃ M N, M ≤ 5 ∧ N ≤ 6 ∧ hv h 15 0 2 = nI M ∧ w 7 0 = nI M ∧ hv h 15 0 3 = nI N ∧ w 7 1 = nI N ∧ h 39 1 = w 0 23 ∧ hv h 15 0 1 = w 8 0 ∧ (∀ H, MtF M_X7_doneAll 0 [.ref 360] (mu H (hset w 0 0 0)) (some (.int (doneS (hv h 15) M))) (mu H (hset w 0 0 0))) ∧ ∃ gr, Rep0 M N gr (hset w 0 0 0) 7 8 ∧ cntS gr 2 N = cntS (hv h 15) 2 N ∧ lateAllS gr N = lateAllS (hv h 15) N := by
  obtain ⟨M, N, hM5, hN6, gM, wM, gN, wN, hZ⟩ := hR.mn
  rcases hZ with ⟨rfl, rfl, z3⟩ | ⟨m0, n0, i0, c0, hi0, hi1, hS, hA, hO⟩
  · exact ⟨0, 0, hM5, hN6, gM, wM, gN, wN, z3.2.2.1.1.trans z3.2.2.1.2.symm, ((hv_at (by decide)).trans z3.1.1).trans z3.2.1.2.2.1.symm, fun H => m7_doneAll0 (fun k hk => (hs_j (by decide)).trans (z3.2.1.2.2.2 k hk)), noG (hset w 0 0 0), no_r0, rfl, rfl⟩
  · exact ⟨M, N, hM5, hN6, gM, wM, gN, wN, hA.1.trans hA.2.1.symm, hS.2.1.1.2.1, fun H => m7_doneAll (hS.2.1.th hM5 hN6) hS.1 (fun k h1 h2 => (hs_j (by decide)).trans (hS.2.2.2.1 k h1 h2)), hv h 15, hS.2.1.th hM5 hN6, rfl, rfl⟩
theorem op_count {h w : Hv} (hR : RelP h w) {x : Int32} : OPI M_X6_count M_X7_count 3 2 [.int x] (mu h w) := by
  obtain ⟨M, N, hM5, hN6, gM, wM, gN, wN, ekp, etk, hdn, gr, hr0, ecn, eln⟩ := hR.cnt
  obtain ⟨-, nT, hnT, hT1, hT2, -⟩ := hR.2.2.1
  rw [mu_15]
  refine MtH.of [some (.ref 0), some (.int x)] pl_X6 rfl rfl ?_
  refine g_iload_n d_X6_count_0 rfl ?_
  refine sw_X6_count_1 (fun e0 => ?_) (fun e1 => ?_) (fun e2 => ?_) (fun e3 => ?_) (fun e4 => ?_) (fun e5 => ?_) (fun e6 => ?_) (fun e7 => ?_) (fun e8 => ?_) (fun q0 q1 q2 q3 q4 q5 q6 q7 q8 => ?_)
  · subst e0
    rw [← mu_15]
    refine g_aload_n d_X6_count_52 rfl ?_
    refine h_getR d_X6_count_53 fl_6_10 sp_L rfl ?_
    refine h_V0i d_X6_count_56 cl_6_355 m_howMany sp_Rows (by decide) rfl (Nat.le_of_ble_eq_true rfl) (by decide) ?_
    refine h_iret d_X6_count_59 rfl ?_
    refine ⟨_, rfl, ?_⟩
    refine MtH.of [some (.ref 360), some (.int 0)] pl_X7 rfl rfl ?_
    refine g_aload_n d_X7_count_0 rfl ?_
    refine g_iconst d_X7_count_1 ik_0 ?_
    refine mm_putI d_X7_count_2 fl_7_62 sp_M rfl ?_
    refine g_iload_n d_X7_count_5 rfl ?_
    refine g_iconst d_X7_count_6 ik_0 ?_
    refine g_bipush d_X7_count_7 bk_8 ?_
    refine h_S3i d_X7_count_9 cl_7_70 m7_in (Nat.le_of_ble_eq_true rfl) (by decide) ?_
    refine g_if_ne d_X7_count_12 (fun c12 => ?_) (fun c12 => absurd c12 (by decide))
    refine g_iload_n d_X7_count_18 rfl ?_
    refine g_iconst d_X7_count_19 ik_4 ?_
    refine g_icmp_ge d_X7_count_20 (fun c20 => absurd c20 (by decide)) (fun c20 => ?_)
    refine g_iload_n d_X7_count_23 rfl ?_
    refine g_if_ne d_X7_count_24 (fun c24 => absurd c24 (by decide)) (fun c24 => ?_)
    refine g_aload_n d_X7_count_27 rfl ?_
    refine h_V0i d_X7_count_28 cl_7_288 m7_rowsThere sp_M (by decide) rfl (Nat.le_of_ble_eq_true rfl) (by decide) ?_
    refine g_goto d_X7_count_31 ?_
    refine h_iret d_X7_count_68 rfl ?_
    exact ⟨by rw [← rows_eq hR.2.1 8 (Nat.le_refl 8)], _, _, rfl, hR.fr fr_thrown⟩
  · subst e1
    refine g_aload_n d_X6_count_60 rfl ?_
    refine h_getR d_X6_count_61 fl_6_26 sp_L rfl ?_
    refine hh_getI d_X6_count_64 fl_6_132 hall_15 (by decide) ?_
    refine h_iret d_X6_count_67 rfl ?_
    refine ⟨_, rfl, ?_⟩
    rw [← mu_15]
    refine MtH.of [some (.ref 360), some (.int 1)] pl_X7 rfl rfl ?_
    refine g_aload_n d_X7_count_0 rfl ?_
    refine g_iconst d_X7_count_1 ik_0 ?_
    refine mm_putI d_X7_count_2 fl_7_62 sp_M rfl ?_
    refine g_iload_n d_X7_count_5 rfl ?_
    refine g_iconst d_X7_count_6 ik_0 ?_
    refine g_bipush d_X7_count_7 bk_8 ?_
    refine h_S3i d_X7_count_9 cl_7_70 m7_in (Nat.le_of_ble_eq_true rfl) (by decide) ?_
    refine g_if_ne d_X7_count_12 (fun c12 => ?_) (fun c12 => absurd c12 (by decide))
    refine g_iload_n d_X7_count_18 rfl ?_
    refine g_iconst d_X7_count_19 ik_4 ?_
    refine g_icmp_ge d_X7_count_20 (fun c20 => absurd c20 (by decide)) (fun c20 => ?_)
    refine g_iload_n d_X7_count_23 rfl ?_
    refine g_if_ne d_X7_count_24 (fun c24 => ?_) (fun c24 => absurd c24 (by decide))
    refine g_iload_n d_X7_count_34 rfl ?_
    refine g_iconst d_X7_count_35 ik_1 ?_
    refine g_icmp_ne d_X7_count_36 (fun c36 => absurd c36 (by decide)) (fun c36 => ?_)
    refine g_aload_n d_X7_count_39 rfl ?_
    refine h_getR d_X7_count_40 fl_7_28 sp_M rfl ?_
    refine g_iconst d_X7_count_43 ik_0 ?_
    refine mm_aldV (k := 0) (v := nI M) d_X7_count_44 (j := 7) sp_m_d rfl (by decide) rfl (by omega) (by decide) ((hs_j (by decide)).trans wM) ?_
    refine g_goto d_X7_count_45 ?_
    refine h_iret d_X7_count_68 rfl ?_
    exact ⟨by rw [gM], _, _, rfl, hR.fr fr_thrown⟩
  · subst e2
    refine g_aload_n d_X6_count_68 rfl ?_
    refine h_getR d_X6_count_69 fl_6_26 sp_L rfl ?_
    refine hh_getI d_X6_count_72 fl_6_262 hall_15 (by decide) ?_
    refine h_iret d_X6_count_75 rfl ?_
    refine ⟨_, rfl, ?_⟩
    rw [← mu_15]
    refine MtH.of [some (.ref 360), some (.int 2)] pl_X7 rfl rfl ?_
    refine g_aload_n d_X7_count_0 rfl ?_
    refine g_iconst d_X7_count_1 ik_0 ?_
    refine mm_putI d_X7_count_2 fl_7_62 sp_M rfl ?_
    refine g_iload_n d_X7_count_5 rfl ?_
    refine g_iconst d_X7_count_6 ik_0 ?_
    refine g_bipush d_X7_count_7 bk_8 ?_
    refine h_S3i d_X7_count_9 cl_7_70 m7_in (Nat.le_of_ble_eq_true rfl) (by decide) ?_
    refine g_if_ne d_X7_count_12 (fun c12 => ?_) (fun c12 => absurd c12 (by decide))
    refine g_iload_n d_X7_count_18 rfl ?_
    refine g_iconst d_X7_count_19 ik_4 ?_
    refine g_icmp_ge d_X7_count_20 (fun c20 => absurd c20 (by decide)) (fun c20 => ?_)
    refine g_iload_n d_X7_count_23 rfl ?_
    refine g_if_ne d_X7_count_24 (fun c24 => ?_) (fun c24 => absurd c24 (by decide))
    refine g_iload_n d_X7_count_34 rfl ?_
    refine g_iconst d_X7_count_35 ik_1 ?_
    refine g_icmp_ne d_X7_count_36 (fun c36 => ?_) (fun c36 => absurd c36 (by decide))
    refine g_iload_n d_X7_count_48 rfl ?_
    refine g_iconst d_X7_count_49 ik_2 ?_
    refine g_icmp_ne d_X7_count_50 (fun c50 => absurd c50 (by decide)) (fun c50 => ?_)
    refine g_aload_n d_X7_count_53 rfl ?_
    refine h_getR d_X7_count_54 fl_7_28 sp_M rfl ?_
    refine g_iconst d_X7_count_57 ik_1 ?_
    refine mm_aldV (k := 1) (v := nI N) d_X7_count_58 (j := 7) sp_m_d rfl (by decide) rfl (by omega) (by decide) ((hs_j (by decide)).trans wN) ?_
    refine g_goto d_X7_count_59 ?_
    refine h_iret d_X7_count_68 rfl ?_
    exact ⟨by rw [gN], _, _, rfl, hR.fr fr_thrown⟩
  · subst e3
    refine g_aload_n d_X6_count_76 rfl ?_
    refine h_getR d_X6_count_77 fl_6_26 sp_L rfl ?_
    refine hh_getI d_X6_count_80 fl_6_158 hall_15 (by decide) ?_
    refine h_iret d_X6_count_83 rfl ?_
    refine ⟨_, rfl, ?_⟩
    rw [← mu_15]
    refine MtH.of [some (.ref 360), some (.int 3)] pl_X7 rfl rfl ?_
    refine g_aload_n d_X7_count_0 rfl ?_
    refine g_iconst d_X7_count_1 ik_0 ?_
    refine mm_putI d_X7_count_2 fl_7_62 sp_M rfl ?_
    refine g_iload_n d_X7_count_5 rfl ?_
    refine g_iconst d_X7_count_6 ik_0 ?_
    refine g_bipush d_X7_count_7 bk_8 ?_
    refine h_S3i d_X7_count_9 cl_7_70 m7_in (Nat.le_of_ble_eq_true rfl) (by decide) ?_
    refine g_if_ne d_X7_count_12 (fun c12 => ?_) (fun c12 => absurd c12 (by decide))
    refine g_iload_n d_X7_count_18 rfl ?_
    refine g_iconst d_X7_count_19 ik_4 ?_
    refine g_icmp_ge d_X7_count_20 (fun c20 => absurd c20 (by decide)) (fun c20 => ?_)
    refine g_iload_n d_X7_count_23 rfl ?_
    refine g_if_ne d_X7_count_24 (fun c24 => ?_) (fun c24 => absurd c24 (by decide))
    refine g_iload_n d_X7_count_34 rfl ?_
    refine g_iconst d_X7_count_35 ik_1 ?_
    refine g_icmp_ne d_X7_count_36 (fun c36 => ?_) (fun c36 => absurd c36 (by decide))
    refine g_iload_n d_X7_count_48 rfl ?_
    refine g_iconst d_X7_count_49 ik_2 ?_
    refine g_icmp_ne d_X7_count_50 (fun c50 => ?_) (fun c50 => absurd c50 (by decide))
    refine g_aload_n d_X7_count_62 rfl ?_
    refine h_getR d_X7_count_63 fl_7_31 sp_M rfl ?_
    refine g_iconst d_X7_count_66 ik_0 ?_
    refine mm_aldV (k := 0) (v := hv h 15 0 1) d_X7_count_67 (j := 8) sp_m_s rfl (by decide) rfl (by omega) (by decide) ((hs_j (by decide)).trans etk.symm) ?_
    refine h_iret d_X7_count_68 rfl ?_
    exact ⟨rfl, _, _, rfl, hR.fr fr_thrown⟩
  · subst e4
    refine g_aload_n d_X6_count_84 rfl ?_
    refine h_getR d_X6_count_85 fl_6_26 sp_L rfl ?_
    refine g_iconst d_X6_count_88 ik_2 ?_
    refine h_V1i d_X6_count_89 cl_6_286 (m_howManyAre hall_15 gN hN6) (sp_hall hall_15) (by decide) rfl (Nat.le_of_ble_eq_true rfl) (by decide) ?_
    refine h_iret d_X6_count_92 rfl ?_
    refine ⟨_, rfl, ?_⟩
    rw [← mu_15]
    refine MtH.of [some (.ref 360), some (.int 4)] pl_X7 rfl rfl ?_
    refine g_aload_n d_X7_count_0 rfl ?_
    refine g_iconst d_X7_count_1 ik_0 ?_
    refine mm_putI d_X7_count_2 fl_7_62 sp_M rfl ?_
    refine g_iload_n d_X7_count_5 rfl ?_
    refine g_iconst d_X7_count_6 ik_0 ?_
    refine g_bipush d_X7_count_7 bk_8 ?_
    refine h_S3i d_X7_count_9 cl_7_70 m7_in (Nat.le_of_ble_eq_true rfl) (by decide) ?_
    refine g_if_ne d_X7_count_12 (fun c12 => ?_) (fun c12 => absurd c12 (by decide))
    refine g_iload_n d_X7_count_18 rfl ?_
    refine g_iconst d_X7_count_19 ik_4 ?_
    refine g_icmp_ge d_X7_count_20 (fun c20 => ?_) (fun c20 => absurd c20 (by decide))
    refine g_iload_n d_X7_count_69 rfl ?_
    refine g_bipush d_X7_count_70 bk_7 ?_
    refine g_icmp_ge d_X7_count_72 (fun c72 => absurd c72 (by decide)) (fun c72 => ?_)
    refine g_iload_n d_X7_count_75 rfl ?_
    refine g_iconst d_X7_count_76 ik_4 ?_
    refine g_icmp_ne d_X7_count_77 (fun c77 => absurd c77 (by decide)) (fun c77 => ?_)
    refine g_aload_n d_X7_count_80 rfl ?_
    refine g_aload_n d_X7_count_81 rfl ?_
    refine h_getR d_X7_count_82 fl_7_31 sp_M rfl ?_
    refine g_iconst d_X7_count_85 ik_2 ?_
    refine h_V2i d_X7_count_86 cl_7_191 (m7_howAll ar_s hr0 hN6 ((hs_j (by decide)).trans wN)) sp_M (by decide) rfl (Nat.le_of_ble_eq_true rfl) (by decide) ?_
    refine h_S1i d_X7_count_89 cl_7_228 (m7_ones (whS_eq _ 2 _ hN6) (Nat.lt_of_lt_of_le (whN_lt _ 2 _) (pow6 hN6))) (Nat.le_of_ble_eq_true rfl) (by decide) ?_
    refine g_goto d_X7_count_92 ?_
    refine h_iret d_X7_count_115 rfl ?_
    exact ⟨by rw [cntS_eq _ 2 _ hN6, ecn], _, _, rfl, hR.fr fr_thrown⟩
  · subst e5
    refine g_aload_n d_X6_count_93 rfl ?_
    refine h_getR d_X6_count_94 fl_6_26 sp_L rfl ?_
    refine h_V0i d_X6_count_97 cl_6_283 (m_doneOfAll hall_15 gM hM5) (sp_hall hall_15) (by decide) rfl (Nat.le_of_ble_eq_true rfl) (by decide) ?_
    refine h_iret d_X6_count_100 rfl ?_
    refine ⟨_, rfl, ?_⟩
    rw [← mu_15]
    refine MtH.of [some (.ref 360), some (.int 5)] pl_X7 rfl rfl ?_
    refine g_aload_n d_X7_count_0 rfl ?_
    refine g_iconst d_X7_count_1 ik_0 ?_
    refine mm_putI d_X7_count_2 fl_7_62 sp_M rfl ?_
    refine g_iload_n d_X7_count_5 rfl ?_
    refine g_iconst d_X7_count_6 ik_0 ?_
    refine g_bipush d_X7_count_7 bk_8 ?_
    refine h_S3i d_X7_count_9 cl_7_70 m7_in (Nat.le_of_ble_eq_true rfl) (by decide) ?_
    refine g_if_ne d_X7_count_12 (fun c12 => ?_) (fun c12 => absurd c12 (by decide))
    refine g_iload_n d_X7_count_18 rfl ?_
    refine g_iconst d_X7_count_19 ik_4 ?_
    refine g_icmp_ge d_X7_count_20 (fun c20 => ?_) (fun c20 => absurd c20 (by decide))
    refine g_iload_n d_X7_count_69 rfl ?_
    refine g_bipush d_X7_count_70 bk_7 ?_
    refine g_icmp_ge d_X7_count_72 (fun c72 => absurd c72 (by decide)) (fun c72 => ?_)
    refine g_iload_n d_X7_count_75 rfl ?_
    refine g_iconst d_X7_count_76 ik_4 ?_
    refine g_icmp_ne d_X7_count_77 (fun c77 => ?_) (fun c77 => absurd c77 (by decide))
    refine g_iload_n d_X7_count_95 rfl ?_
    refine g_iconst d_X7_count_96 ik_5 ?_
    refine g_icmp_ne d_X7_count_97 (fun c97 => absurd c97 (by decide)) (fun c97 => ?_)
    refine g_aload_n d_X7_count_100 rfl ?_
    refine h_V0i d_X7_count_101 cl_7_234 (hdn _) sp_M (by decide) rfl (Nat.le_of_ble_eq_true rfl) (by decide) ?_
    refine g_goto d_X7_count_104 ?_
    refine h_iret d_X7_count_115 rfl ?_
    exact ⟨rfl, _, _, rfl, hR.fr fr_thrown⟩
  · subst e6
    refine g_aload_n d_X6_count_101 rfl ?_
    refine h_getR d_X6_count_102 fl_6_26 sp_L rfl ?_
    refine h_V0i d_X6_count_105 cl_6_239 (m_lateOfAll hall_15 gN hN6) (sp_hall hall_15) (by decide) rfl (Nat.le_of_ble_eq_true rfl) (by decide) ?_
    refine h_iret d_X6_count_108 rfl ?_
    refine ⟨_, rfl, ?_⟩
    rw [← mu_15]
    refine MtH.of [some (.ref 360), some (.int 6)] pl_X7 rfl rfl ?_
    refine g_aload_n d_X7_count_0 rfl ?_
    refine g_iconst d_X7_count_1 ik_0 ?_
    refine mm_putI d_X7_count_2 fl_7_62 sp_M rfl ?_
    refine g_iload_n d_X7_count_5 rfl ?_
    refine g_iconst d_X7_count_6 ik_0 ?_
    refine g_bipush d_X7_count_7 bk_8 ?_
    refine h_S3i d_X7_count_9 cl_7_70 m7_in (Nat.le_of_ble_eq_true rfl) (by decide) ?_
    refine g_if_ne d_X7_count_12 (fun c12 => ?_) (fun c12 => absurd c12 (by decide))
    refine g_iload_n d_X7_count_18 rfl ?_
    refine g_iconst d_X7_count_19 ik_4 ?_
    refine g_icmp_ge d_X7_count_20 (fun c20 => ?_) (fun c20 => absurd c20 (by decide))
    refine g_iload_n d_X7_count_69 rfl ?_
    refine g_bipush d_X7_count_70 bk_7 ?_
    refine g_icmp_ge d_X7_count_72 (fun c72 => absurd c72 (by decide)) (fun c72 => ?_)
    refine g_iload_n d_X7_count_75 rfl ?_
    refine g_iconst d_X7_count_76 ik_4 ?_
    refine g_icmp_ne d_X7_count_77 (fun c77 => ?_) (fun c77 => absurd c77 (by decide))
    refine g_iload_n d_X7_count_95 rfl ?_
    refine g_iconst d_X7_count_96 ik_5 ?_
    refine g_icmp_ne d_X7_count_97 (fun c97 => ?_) (fun c97 => absurd c97 (by decide))
    refine g_aload_n d_X7_count_107 rfl ?_
    refine g_aload_n d_X7_count_108 rfl ?_
    refine h_getR d_X7_count_109 fl_7_31 sp_M rfl ?_
    refine h_V1i d_X7_count_112 cl_7_215 (m7_lateAll ar_s hr0 hN6 ((hs_j (by decide)).trans wN)) sp_M (by decide) rfl (Nat.le_of_ble_eq_true rfl) (by decide) ?_
    refine h_iret d_X7_count_115 rfl ?_
    exact ⟨by rw [eln], _, _, rfl, hR.fr fr_thrown⟩
  · subst e7
    rw [← mu_15]
    refine g_aload_n d_X6_count_109 rfl ?_
    refine h_getR d_X6_count_110 fl_6_36 sp_L rfl ?_
    refine h_getV (v := h 39 1) d_X6_count_113 fl_6_138 sp_Acts rfl (mu_low (by decide)) ?_
    refine h_iret d_X6_count_116 rfl ?_
    refine ⟨_, rfl, ?_⟩
    refine MtH.of [some (.ref 360), some (.int 7)] pl_X7 rfl rfl ?_
    refine g_aload_n d_X7_count_0 rfl ?_
    refine g_iconst d_X7_count_1 ik_0 ?_
    refine mm_putI d_X7_count_2 fl_7_62 sp_M rfl ?_
    refine g_iload_n d_X7_count_5 rfl ?_
    refine g_iconst d_X7_count_6 ik_0 ?_
    refine g_bipush d_X7_count_7 bk_8 ?_
    refine h_S3i d_X7_count_9 cl_7_70 m7_in (Nat.le_of_ble_eq_true rfl) (by decide) ?_
    refine g_if_ne d_X7_count_12 (fun c12 => ?_) (fun c12 => absurd c12 (by decide))
    refine g_iload_n d_X7_count_18 rfl ?_
    refine g_iconst d_X7_count_19 ik_4 ?_
    refine g_icmp_ge d_X7_count_20 (fun c20 => ?_) (fun c20 => absurd c20 (by decide))
    refine g_iload_n d_X7_count_69 rfl ?_
    refine g_bipush d_X7_count_70 bk_7 ?_
    refine g_icmp_ge d_X7_count_72 (fun c72 => ?_) (fun c72 => absurd c72 (by decide))
    refine g_iload_n d_X7_count_116 rfl ?_
    refine g_bipush d_X7_count_117 bk_7 ?_
    refine g_icmp_ne d_X7_count_119 (fun c119 => absurd c119 (by decide)) (fun c119 => ?_)
    refine g_aload_n d_X7_count_122 rfl ?_
    refine mm_getV (v := h 39 1) d_X7_count_123 fl_7_149 sp_M rfl ((hs_b (by decide)).trans ekp.symm) ?_
    refine g_goto d_X7_count_126 ?_
    refine h_iret d_X7_count_133 rfl ?_
    exact ⟨rfl, _, _, rfl, hR.fr fr_thrown⟩
  · subst e8
    rw [← mu_15]
    refine g_aload_n d_X6_count_117 rfl ?_
    refine h_getR d_X6_count_118 fl_6_19 sp_L rfl ?_
    refine h_getV (v := nI nT) d_X6_count_121 fl_6_116 sp_Tape rfl ((mu_low (by decide)).trans hT1) ?_
    refine h_iret d_X6_count_124 rfl ?_
    refine ⟨_, rfl, ?_⟩
    refine MtH.of [some (.ref 360), some (.int 8)] pl_X7 rfl rfl ?_
    refine g_aload_n d_X7_count_0 rfl ?_
    refine g_iconst d_X7_count_1 ik_0 ?_
    refine mm_putI d_X7_count_2 fl_7_62 sp_M rfl ?_
    refine g_iload_n d_X7_count_5 rfl ?_
    refine g_iconst d_X7_count_6 ik_0 ?_
    refine g_bipush d_X7_count_7 bk_8 ?_
    refine h_S3i d_X7_count_9 cl_7_70 m7_in (Nat.le_of_ble_eq_true rfl) (by decide) ?_
    refine g_if_ne d_X7_count_12 (fun c12 => ?_) (fun c12 => absurd c12 (by decide))
    refine g_iload_n d_X7_count_18 rfl ?_
    refine g_iconst d_X7_count_19 ik_4 ?_
    refine g_icmp_ge d_X7_count_20 (fun c20 => ?_) (fun c20 => absurd c20 (by decide))
    refine g_iload_n d_X7_count_69 rfl ?_
    refine g_bipush d_X7_count_70 bk_7 ?_
    refine g_icmp_ge d_X7_count_72 (fun c72 => ?_) (fun c72 => absurd c72 (by decide))
    refine g_iload_n d_X7_count_116 rfl ?_
    refine g_bipush d_X7_count_117 bk_7 ?_
    refine g_icmp_ne d_X7_count_119 (fun c119 => ?_) (fun c119 => absurd c119 (by decide))
    refine g_aload_n d_X7_count_129 rfl ?_
    refine mm_getV (v := nI nT) d_X7_count_130 fl_7_89 sp_M rfl ((hs_b (by decide)).trans hT2) ?_
    refine h_iret d_X7_count_133 rfl ?_
    exact ⟨rfl, _, _, rfl, hR.fr fr_thrown⟩
  · refine g_ldc d_X6_count_125 kc_X6_66 ?_
    refine h_iret d_X6_count_127 rfl ?_
    refine ⟨_, rfl, ?_⟩
    rw [← mu_15]
    refine MtH.of [some (.ref 360), some (.int x)] pl_X7 rfl rfl ?_
    refine g_aload_n d_X7_count_0 rfl ?_
    refine g_iconst d_X7_count_1 ik_0 ?_
    refine mm_putI d_X7_count_2 fl_7_62 sp_M rfl ?_
    refine g_iload_n d_X7_count_5 rfl ?_
    refine g_iconst d_X7_count_6 ik_0 ?_
    refine g_bipush d_X7_count_7 bk_8 ?_
    refine h_S3i d_X7_count_9 cl_7_70 m7_in (Nat.le_of_ble_eq_true rfl) (by decide) ?_
    refine g_if_ne d_X7_count_12 (fun c12 => ?_) (fun c12 => ?_)
    · exfalso
      have z0 : ¬ x.toInt = 0 := fun z => q0 (Int32.toInt_inj.mp (z.trans t_0.symm))
      have z1 : ¬ x.toInt = 1 := fun z => q1 (Int32.toInt_inj.mp (z.trans t_1.symm))
      have z2 : ¬ x.toInt = 2 := fun z => q2 (Int32.toInt_inj.mp (z.trans t_2.symm))
      have z3 : ¬ x.toInt = 3 := fun z => q3 (Int32.toInt_inj.mp (z.trans t_3.symm))
      have z4 : ¬ x.toInt = 4 := fun z => q4 (Int32.toInt_inj.mp (z.trans t_4.symm))
      have z5 : ¬ x.toInt = 5 := fun z => q5 (Int32.toInt_inj.mp (z.trans t_5.symm))
      have z6 : ¬ x.toInt = 6 := fun z => q6 (Int32.toInt_inj.mp (z.trans t_6.symm))
      have z7 : ¬ x.toInt = 7 := fun z => q7 (Int32.toInt_inj.mp (z.trans t_7.symm))
      have z8 : ¬ x.toInt = 8 := fun z => q8 (Int32.toInt_inj.mp (z.trans t_8.symm))
      clear q0 q1 q2 q3 q4 q5 q6 q7 q8
      simp only [b2i_eq0, b2i_ne0, Int32.lt_iff_toInt_lt, Int32.le_iff_toInt_le, t_0, t_1, t_2, t_3, t_4, t_5, t_6, t_7, t_8, t_9, t_10, t_11, t_12, t_20, t_24, t_40, t_50, t_60, t_99, t_110, t_255, t_999, t_999999, t_m1] at *
      omega
    · refine g_ldc d_X7_count_15 kc_X7_78 ?_
      refine h_iret d_X7_count_17 rfl ?_
      exact ⟨rfl, _, _, rfl, hR.fr fr_thrown⟩
