/-! OPS: need -/
theorem rep_00 {M N ja jb : Nat} {g w : Hv} (hR : RepM M N g w ja jb) (hJ : JJ ja jb) (hM5 : M ≤ 5) (hN6 : N ≤ 6) {v : Int32} : RepM M N (hset g 0 0 v) (hset w jb 1 v) ja jb := by
  unfold JJ at hJ
  obtain ⟨⟨a0, a1, a2, a3, a4⟩, hb, hc, hd⟩ := hR
  refine ⟨⟨?_, ?_, ?_, ?_, ?_⟩, fun k' hk' => ?_, fun l' hl' => ?_, fun j' hj' => ?_⟩
  · unfold hset; repeat' split
    all_goals first | assumption | rfl | omega
  · unfold hset; repeat' split
    all_goals first | assumption | rfl | omega
  · unfold hset; repeat' split
    all_goals first | assumption | rfl | omega
  · unfold hset; repeat' split
    all_goals first | assumption | rfl | omega
  · unfold hset; repeat' split
    all_goals first | assumption | rfl | omega
  · obtain ⟨b1, b2, b3, b4, b5, b6⟩ := hb k' hk'
    unfold hset
    refine ⟨?_, ?_, ?_, ?_, ?_, ?_⟩
    all_goals repeat' split
    all_goals first | assumption | rfl | omega
  · obtain ⟨c1, c2, c3, c4⟩ := hc l' hl'
    unfold hset
    refine ⟨?_, ?_, ?_, ?_⟩
    all_goals repeat' split
    all_goals first | assumption | rfl | omega | (intro e9; first | rfl | exact absurd e9 h9 | exact c4 e9 | omega) | skip
  · have d1 := hd j' hj'
    unfold hset
    repeat' split
    all_goals first | assumption | rfl | omega
theorem rep_04 {M N ja jb : Nat} {g w : Hv} (hR : RepM M N g w ja jb) (hJ : JJ ja jb) (hM5 : M ≤ 5) (hN6 : N ≤ 6) {v : Int32} : RepM M N (hset g 0 4 v) (hset w jb 2 v) ja jb := by
  unfold JJ at hJ
  obtain ⟨⟨a0, a1, a2, a3, a4⟩, hb, hc, hd⟩ := hR
  refine ⟨⟨?_, ?_, ?_, ?_, ?_⟩, fun k' hk' => ?_, fun l' hl' => ?_, fun j' hj' => ?_⟩
  · unfold hset; repeat' split
    all_goals first | assumption | rfl | omega
  · unfold hset; repeat' split
    all_goals first | assumption | rfl | omega
  · unfold hset; repeat' split
    all_goals first | assumption | rfl | omega
  · unfold hset; repeat' split
    all_goals first | assumption | rfl | omega
  · unfold hset; repeat' split
    all_goals first | assumption | rfl | omega
  · obtain ⟨b1, b2, b3, b4, b5, b6⟩ := hb k' hk'
    unfold hset
    refine ⟨?_, ?_, ?_, ?_, ?_, ?_⟩
    all_goals repeat' split
    all_goals first | assumption | rfl | omega
  · obtain ⟨c1, c2, c3, c4⟩ := hc l' hl'
    unfold hset
    refine ⟨?_, ?_, ?_, ?_⟩
    all_goals repeat' split
    all_goals first | assumption | rfl | omega | (intro e9; first | rfl | exact absurd e9 h9 | exact c4 e9 | omega) | skip
  · have d1 := hd j' hj'
    unfold hset
    repeat' split
    all_goals first | assumption | rfl | omega
theorem HI.power {M N : Nat} {g : Hv} (h : HI M N g) {v : Nat} (h1 : 1 ≤ v) (h2 : v ≤ 5) : HI M N (hset g 0 0 (nI v)) := ⟨h.1, h.2.1, h.2.2.1, h.2.2.2.1, h.2.2.2.2.1, h.2.2.2.2.2.1, h.2.2.2.2.2.2.1, h.2.2.2.2.2.2.2.1, ⟨v, h1, h2, hs_at⟩⟩
theorem HI.openb {M N : Nat} {g : Hv} (h : HI M N g) {b : Nat} (hb : b < 2 ^ M) : HI M N (hset g 0 4 (nI b)) := ⟨h.1, h.2.1, h.2.2.1, h.2.2.2.1, h.2.2.2.2.1, h.2.2.2.2.2.1, h.2.2.2.2.2.2.1, ⟨b, hb, hs_at⟩, h.2.2.2.2.2.2.2.2⟩
theorem p_asNow27 {h w g : Hv} : MtF M_X6_asNow 2 [.ref 0] (pu (mu h w) 27 g) (some (.ref 27)) (pu (mu h w) 27 (hv h 15)) := by
  have q := m6_asNow (h := pu (mu h w) 27 g)
  rw [pu_pu, hv_eq (h := mu h w) (fun j b hj => blk_out (by omega)), mu_hv (by decide)] at q
  exact q
theorem FrS.r0 {M N : Nat} {g w w' : Hv} (f : FrS w w') (h : Rep0 M N g w 7 8) (hM5 : M ≤ 5) (hN6 : N ≤ 6) : Rep0 M N g w' 7 8 := h.mv hM5 hN6 (fun y _ => f 7 y (by decide) (by decide) (by decide) (by decide) (by decide) (by omega)) (fun y _ => f 8 y (by decide) (by decide) (by decide) (by decide) (by decide) (by omega))
theorem m6_isPlanned {h : Hv} {x : Int32} : MtF M_X6_isPlanned 0 [.int x] (h) (some (.int (b2i (¬ x < 1 ∧ ¬ 50 < x)))) (h) := by
  refine MtF.of [some (.int x)] pl_X6 rfl rfl ?_
  refine g_iload_n d_X6_isPlanned_0 rfl ?_
  refine g_iconst d_X6_isPlanned_1 ik_1 ?_
  refine g_icmp_lt d_X6_isPlanned_2 (fun c2 => ?_) (fun c2 => ?_)
  · refine g_iconst d_X6_isPlanned_15 ik_0 ?_
    refine h_zret d_X6_isPlanned_16 rfl rfl ?_
    exact pF (by simp [b2i, *]) rfl
  · refine g_iload_n d_X6_isPlanned_5 rfl ?_
    refine g_bipush d_X6_isPlanned_6 bk_50 ?_
    refine g_icmp_gt d_X6_isPlanned_8 (fun c8 => ?_) (fun c8 => ?_)
    · refine g_iconst d_X6_isPlanned_15 ik_0 ?_
      refine h_zret d_X6_isPlanned_16 rfl rfl ?_
      exact pF (by simp [b2i, *]) rfl
    · refine g_iconst d_X6_isPlanned_11 ik_1 ?_
      refine g_goto d_X6_isPlanned_12 ?_
      refine h_zret d_X6_isPlanned_16 rfl rfl ?_
      exact pF (by simp [b2i, *]) rfl
def ndP (M N n : Nat) (g : Hv) (v : Nat) : Int32 := b2i (cntS (tickN M N n (hset g 0 0 (nI v))) 2 N = N)
theorem lp_need6 {h w : Hv} {M N n : Nat} (hI : HI M N (hv h 15)) (hn : n < 2 ^ 30) : ∀ m v, v + m = 6 → 1 ≤ v → ∀ g' y, GdH M_X6_need 5 25 [some (.ref 0), some (.int (nI n)), some (.int (nI v)), y] [] (pu (mu h w) 27 g') (fun v' h' => v' = some (.int (fstP (ndP M N n (hv h 15)) m v)) ∧ ∃ g', h' = pu (mu h w) 27 g') := by
  intro m
  induction m with
  | zero =>
    intro v hv1 hv2 g' y
    refine g_iload_n d_X6_need_25 rfl ?_
    refine g_iconst d_X6_need_26 ik_5 ?_
    refine g_icmp_gt d_X6_need_27 (fun c27 => ?_) (fun c27 => absurd ((nI_ltI (a := 5) (b := v) (by decide) (by omega)).mpr (by omega)) c27)
    refine g_ldc d_X6_need_60 kc_X6_220 ?_
    refine h_iret d_X6_need_62 rfl ?_
    exact ⟨rfl, _, rfl⟩
  | succ m ih =>
    intro v hv1 hv2 g' y
    have hIv := hI.power (v := v) hv2 (by omega)
    have hI2 := hIv.tickN n
    refine g_iload_n d_X6_need_25 rfl ?_
    refine g_iconst d_X6_need_26 ik_5 ?_
    refine g_icmp_gt d_X6_need_27 (fun c27 => absurd c27 (fun z => by have := (nI_ltI (a := 5) (b := v) (by decide) (by omega)).mp z; omega)) (fun c27 => ?_)
    refine g_aload_n d_X6_need_30 rfl ?_
    refine h_V0a d_X6_need_31 cl_6_242 p_asNow27 sp_L (by decide) rfl (Nat.le_of_ble_eq_true rfl) (by decide) ?_
    refine w_astore_n (L' := [_, _, _, _]) d_X6_need_34 rfl rfl rfl ?_
    refine g_aload_n d_X6_need_35 rfl ?_
    refine g_iload_n d_X6_need_36 rfl ?_
    refine hh_putI d_X6_need_37 fl_6_180 hall_27 (by decide) ?_
    refine g_aload_n d_X6_need_40 rfl ?_
    refine g_iload_n d_X6_need_41 rfl ?_
    refine h_V1v d_X6_need_42 cl_6_268 (m_passTicks hall_27 hIv rfl hn) (sp_hall hall_27) (by decide) rfl (Nat.le_of_ble_eq_true rfl) (by decide) ?_
    refine g_aload_n d_X6_need_45 rfl ?_
    refine h_V0i d_X6_need_46 cl_6_249 (m_isAllDry hall_27 hI2.hN hI2.hN6) (sp_hall hall_27) (by decide) rfl (Nat.le_of_ble_eq_true rfl) (by decide) ?_
    refine g_if_eq d_X6_need_49 (fun c49 => ?_) (fun c49 => ?_)
    · refine w_iinc (L' := [_, _, _, _]) d_X6_need_54 ik_1 rfl rfl rfl rfl ?_
      refine g_goto d_X6_need_57 ?_
      rw [nI_1]
      refine h_weaken (ih (v + 1) (by omega) (by omega) _ _) ?_
      intro v' h' hp
      exact ⟨by rw [hp.1, fstP, if_pos (show ndP M N n (hv h 15) v = 0 from c49)], hp.2⟩
    · refine g_iload_n d_X6_need_52 rfl ?_
      refine h_iret d_X6_need_53 rfl ?_
      exact ⟨by rw [fstP, if_neg (show ¬ ndP M N n (hv h 15) v = 0 from c49)], _, rfl⟩
theorem lp_need7 {h w g : Hv} {M N n : Nat} (hI : HI M N g) (wN : w 7 1 = nI N) (hR : Rep0 M N g w 7 8) (hr : ∀ j, j < N → g 11 j = nI j) (hn : n < 2 ^ 30) : ∀ m v, v + m = 6 → 1 ≤ v → ∀ w', FrS w w' → GdH M_X7_need 5 30 [some (.ref 360), some (.int (nI n)), some (.int (nI v))] [] (mu h w') (fun v' h' => v' = some (.int (fstP (ndP M N n g) m v)) ∧ ∃ w2, h' = mu h w2 ∧ FrS w w2) := by
  intro m
  induction m with
  | zero =>
    intro v hv1 hv2 w' hf
    refine g_iload_n d_X7_need_30 rfl ?_
    refine g_bipush d_X7_need_31 bk_6 ?_
    refine g_icmp_ge d_X7_need_33 (fun c33 => ?_) (fun c33 => absurd (nI_le (a := 6) (b := v) (by omega) (by omega)) c33)
    refine g_ldc d_X7_need_71 kc_X7_207 ?_
    refine h_iret d_X7_need_73 rfl ?_
    exact ⟨rfl, _, rfl, hf⟩
  | succ m ih =>
    intro v hv1 hv2 w' hf
    have hIv := hI.power (v := v) hv2 (by omega)
    have hI2 := hIv.tickN n
    have hn0 := rep_now (hf.r0 hR hI.hM5 hI.hN6) hI.hM5 hI.hN6 hr
    have hn1 := rep_00 (v := nI v) hn0 (Or.inr ⟨rfl, rfl⟩) hI.hM5 hI.hN6
    refine g_iload_n d_X7_need_30 rfl ?_
    refine g_bipush d_X7_need_31 bk_6 ?_
    refine g_icmp_ge d_X7_need_33 (fun c33 => absurd c33 (nI_ge (a := v) (b := 6) (by omega) (by omega))) (fun c33 => ?_)
    refine g_aload_n d_X7_need_36 rfl ?_
    refine h_V0v d_X7_need_37 cl_7_178 m7_asNow sp_M (by decide) rfl (Nat.le_of_ble_eq_true rfl) (by decide) ?_
    refine g_aload_n d_X7_need_40 rfl ?_
    refine h_V0v d_X7_need_41 cl_7_181 m7_ranksByNumber sp_M (by decide) rfl (Nat.le_of_ble_eq_true rfl) (by decide) ?_
    refine g_aload_n d_X7_need_44 rfl ?_
    refine h_getR d_X7_need_45 fl_7_37 sp_M rfl ?_
    refine g_iconst d_X7_need_48 ik_1 ?_
    refine g_iload_n d_X7_need_49 rfl ?_
    refine mm_astE (k := 1) d_X7_need_50 (j := 10) sp_m_w rfl (by decide) rfl (by omega) (by decide) ?_
    refine g_aload_n d_X7_need_51 rfl ?_
    refine g_iload_n d_X7_need_52 rfl ?_
    refine h_V1P d_X7_need_53 cl_7_184 (m7_foretells hn1 hIv rfl hn) sp_M (by decide) rfl (Nat.le_of_ble_eq_true rfl) (by decide) ?_
    intro v' h' hp
    obtain ⟨rfl, w2, rfl, hr2, hf2, hd2⟩ := hp
    have hf3 := hf.tr (((nowR_fs (w := w')).set (j := 10) (by omega)).tr hf2.fs)
    refine g_aload_n d_X7_need_56 rfl ?_
    refine h_V0i d_X7_need_57 cl_7_222 (m7_isAllDry hr2.r0 hI.hN6 (hf3.w71 wN)) sp_M (by decide) rfl (Nat.le_of_ble_eq_true rfl) (by decide) ?_
    refine g_if_eq d_X7_need_60 (fun c60 => ?_) (fun c60 => ?_)
    · refine w_iinc (L' := [_, _, _]) d_X7_need_65 ik_1 rfl rfl rfl rfl ?_
      refine g_goto d_X7_need_68 ?_
      rw [nI_1]
      refine h_weaken (ih (v + 1) (by omega) (by omega) w2 hf3) ?_
      intro v' h' hp
      exact ⟨by rw [hp.1, fstP, if_pos (show ndP M N n g v = 0 from c60)], hp.2⟩
    · refine g_iload_n d_X7_need_63 rfl ?_
      refine h_iret d_X7_need_64 rfl ?_
      exact ⟨by rw [fstP, if_neg (show ¬ ndP M N n g v = 0 from c60)], _, rfl, hf3⟩
theorem op_need {h w : Hv} (hR : RelP h w) {x : Int32} : OPI M_X6_need M_X7_need 5 5 [.int x] (mu h w) := by
  obtain ⟨M, N, hM5, hN6, gM, wM, gN, wN, hZ⟩ := hR.mn
  have eM : (nI M).toInt = M := nI_toInt (by omega)
  have eN : (nI N).toInt = N := nI_toInt (by omega)
  have eM1 := nI_predI (t := M) (by omega)
  have eN1 := nI_predI (t := N) (by omega)
  refine MtH.of [some (.ref 0), some (.int x), none, none] pl_X6 rfl rfl ?_
  refine g_aload_n d_X6_need_0 rfl ?_
  refine h_getR d_X6_need_1 fl_6_26 sp_L rfl ?_
  refine h_V0i d_X6_need_4 cl_6_154 p_isNone (sp_hall hall_15) (by decide) rfl (Nat.le_of_ble_eq_true rfl) (by decide) ?_
  refine g_if_eq d_X6_need_7 (fun c7 => ?_) (fun c7 => ?_)
  · have hM0 : ¬ nI M = 0 := fun z => b2i_eq0.mp c7 (gM.trans z)
    obtain ⟨i0, c0, hi0, hi1, hS, hA, hO⟩ := (hZ.resolve_left (fun z => hM0 (by rw [z.1]; rfl))).2.2
    have hI := hS.1
    refine g_iload_n d_X6_need_13 rfl ?_
    refine h_S1i d_X6_need_14 cl_6_252 m6_isPlanned (Nat.le_of_ble_eq_true rfl) (by decide) ?_
    refine g_if_ne d_X6_need_17 (fun c17 => ?_) (fun c17 => ?_)
    · obtain ⟨n, hn, rfl⟩ := rngI (x := x) (B := 51) (by simp only [b2i_eq0, b2i_ne0, Int32.lt_iff_toInt_lt, Int32.le_iff_toInt_le, t_0, t_1, t_2, t_3, t_4, t_5, t_6, t_7, t_8, t_9, t_10, t_11, t_12, t_20, t_24, t_40, t_50, t_60, t_99, t_110, t_255, t_999, t_999999, t_m1, gM, gN, eM, eN, eM1, eN1] at *; omega) (by simp only [b2i_eq0, b2i_ne0, Int32.lt_iff_toInt_lt, Int32.le_iff_toInt_le, t_0, t_1, t_2, t_3, t_4, t_5, t_6, t_7, t_8, t_9, t_10, t_11, t_12, t_20, t_24, t_40, t_50, t_60, t_99, t_110, t_255, t_999, t_999999, t_m1, gM, gN, eM, eN, eM1, eN1] at *; omega)
      have en : (nI n).toInt = n := nI_toInt (by omega)
      refine g_iconst d_X6_need_23 ik_1 ?_
      refine w_istore_n (L' := [_, _, _, _]) d_X6_need_24 rfl rfl rfl ?_
      rw [show mu h w = pu (mu h w) 27 (hv (mu h w) 27) from pu_hv.symm]
      refine h_weaken (lp_need6 (h := h) (w := w) (n := n) hI (by omega) 5 1 rfl (by omega) _ _) ?_
      intro v' h' hp
      obtain ⟨rfl, g', rfl⟩ := hp
      refine ⟨_, rfl, ?_⟩
      rw [mu_pu (by decide)]
      refine MtH.of [some (.ref 360), some (.int (nI n)), none] pl_X7 rfl rfl ?_
      refine g_aload_n d_X7_need_0 rfl ?_
      refine g_iconst d_X7_need_1 ik_0 ?_
      refine mm_putI d_X7_need_2 fl_7_62 sp_M rfl ?_
      refine g_aload_n d_X7_need_5 rfl ?_
      refine h_V0i d_X7_need_6 cl_7_195 (m7_isNothing ((hs_j (by decide)).trans wM)) sp_M (by decide) rfl (Nat.le_of_ble_eq_true rfl) (by decide) ?_
      refine g_if_eq d_X7_need_9 (fun c9 => ?_) (fun c9 => ?_)
      · refine g_iload_n d_X7_need_15 rfl ?_
        refine g_iconst d_X7_need_16 ik_1 ?_
        refine g_bipush d_X7_need_17 bk_50 ?_
        refine h_S3i d_X7_need_19 cl_7_70 m7_in (Nat.le_of_ble_eq_true rfl) (by decide) ?_
        refine g_if_ne d_X7_need_22 (fun c22 => ?_) (fun c22 => ?_)
        · refine g_iconst d_X7_need_28 ik_1 ?_
          refine w_istore_n (L' := [_, _, _]) d_X7_need_29 rfl rfl rfl ?_
          refine h_weaken (lp_need7 (w := hset w 0 0 0) (n := n) hI ((hs_j (by decide)).trans wN) (hS.2.1.th hM5 hN6) hS.2.2.1.1 (by omega) 5 1 rfl (by omega) _ FrS.rf) ?_
          intro v' h' hp
          obtain ⟨rfl, w3, rfl, hf3⟩ := hp
          exact ⟨rfl, _, _, rfl, (hR.fc fc_27).fr (fr_thrown.tr hf3.fr)⟩
        · exfalso
          simp only [b2i_eq0, b2i_ne0, Int32.lt_iff_toInt_lt, Int32.le_iff_toInt_le, t_0, t_1, t_2, t_3, t_4, t_5, t_6, t_7, t_8, t_9, t_10, t_11, t_12, t_20, t_24, t_40, t_50, t_60, t_99, t_110, t_255, t_999, t_999999, t_m1, en, gM, gN, eM, eN, eM1, eN1] at *
          omega
      · exact absurd (b2i_ne0.mp c9) hM0
    · refine g_ldc d_X6_need_20 kc_X6_66 ?_
      refine h_iret d_X6_need_22 rfl ?_
      refine ⟨_, rfl, ?_⟩
      refine MtH.of [some (.ref 360), some (.int x), none] pl_X7 rfl rfl ?_
      refine g_aload_n d_X7_need_0 rfl ?_
      refine g_iconst d_X7_need_1 ik_0 ?_
      refine mm_putI d_X7_need_2 fl_7_62 sp_M rfl ?_
      refine g_aload_n d_X7_need_5 rfl ?_
      refine h_V0i d_X7_need_6 cl_7_195 (m7_isNothing ((hs_j (by decide)).trans wM)) sp_M (by decide) rfl (Nat.le_of_ble_eq_true rfl) (by decide) ?_
      refine g_if_eq d_X7_need_9 (fun c9 => ?_) (fun c9 => ?_)
      · refine g_iload_n d_X7_need_15 rfl ?_
        refine g_iconst d_X7_need_16 ik_1 ?_
        refine g_bipush d_X7_need_17 bk_50 ?_
        refine h_S3i d_X7_need_19 cl_7_70 m7_in (Nat.le_of_ble_eq_true rfl) (by decide) ?_
        refine g_if_ne d_X7_need_22 (fun c22 => ?_) (fun c22 => ?_)
        · exfalso
          simp only [b2i_eq0, b2i_ne0, Int32.lt_iff_toInt_lt, Int32.le_iff_toInt_le, t_0, t_1, t_2, t_3, t_4, t_5, t_6, t_7, t_8, t_9, t_10, t_11, t_12, t_20, t_24, t_40, t_50, t_60, t_99, t_110, t_255, t_999, t_999999, t_m1, gM, gN, eM, eN, eM1, eN1] at *
          omega
        · refine g_ldc d_X7_need_25 kc_X7_78 ?_
          refine h_iret d_X7_need_27 rfl ?_
          exact ⟨rfl, _, _, rfl, hR.fr fr_thrown⟩
      · exact absurd (b2i_ne0.mp c9) hM0
  · refine g_ldc d_X6_need_10 kc_X6_141 ?_
    refine h_iret d_X6_need_12 rfl ?_
    refine ⟨_, rfl, ?_⟩
    refine MtH.of [some (.ref 360), some (.int x), none] pl_X7 rfl rfl ?_
    refine g_aload_n d_X7_need_0 rfl ?_
    refine g_iconst d_X7_need_1 ik_0 ?_
    refine mm_putI d_X7_need_2 fl_7_62 sp_M rfl ?_
    refine g_aload_n d_X7_need_5 rfl ?_
    refine h_V0i d_X7_need_6 cl_7_195 (m7_isNothing ((hs_j (by decide)).trans wM)) sp_M (by decide) rfl (Nat.le_of_ble_eq_true rfl) (by decide) ?_
    refine g_if_eq d_X7_need_9 (fun c9 => ?_) (fun c9 => ?_)
    · exact absurd (gM.symm.trans (b2i_ne0.mp c7)) (b2i_eq0.mp c9)
    · refine g_ldc d_X7_need_12 kc_X7_194 ?_
      refine h_iret d_X7_need_14 rfl ?_
      exact ⟨rfl, _, _, rfl, hR.fr fr_thrown⟩
