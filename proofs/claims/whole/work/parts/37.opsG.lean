/-! OPS: over, need -/
def fstP (p : Nat → Int32) : Nat → Nat → Int32
  | 0, _ => -1000000
  | m + 1, n => if p n = 0 then fstP p m (n + 1) else nI n
theorem tickN_s {M N n : Nat} {g : Hv} : tickN M N (n + 1) g = tickS (tickN M N n g) M N := tickN_add M N n 1 g
theorem FrS.w71 {w w' : Hv} (f : FrS w w') {v : Int32} (h : w 7 1 = v) : w' 7 1 = v := (f 7 1 (by decide) (by decide) (by decide) (by decide) (by decide) (by decide)).trans h
def ovP (M N : Nat) (g : Hv) (n : Nat) : Int32 := b2i (cntS (tickN M N n g) 2 N = N)
theorem lp_over6 {H g : Hv} {M N : Nat} (hI : HI M N g) : ∀ m n, n + m = 61 → GdH M_X6_over 4 20 [some (.ref 0), some (.ref 27), some (.int (nI n))] [] (pu H 27 (tickN M N n g)) (fun v' h' => v' = some (.int (fstP (ovP M N g) m n)) ∧ ∃ g', h' = pu H 27 g') := by
  intro m
  induction m with
  | zero =>
    intro n hn
    refine g_iload_n d_X6_over_20 rfl ?_
    refine g_bipush d_X6_over_21 bk_60 ?_
    refine g_icmp_gt d_X6_over_23 (fun c23 => ?_) (fun c23 => absurd ((nI_ltI (a := 60) (b := n) (by decide) (by omega)).mpr (by omega)) c23)
    refine g_ldc d_X6_over_45 kc_X6_220 ?_
    refine h_iret d_X6_over_47 rfl ?_
    exact ⟨rfl, _, rfl⟩
  | succ m ih =>
    intro n hn
    have hI2 := hI.tickN n
    refine g_iload_n d_X6_over_20 rfl ?_
    refine g_bipush d_X6_over_21 bk_60 ?_
    refine g_icmp_gt d_X6_over_23 (fun c23 => absurd c23 (fun z => by have := (nI_ltI (a := 60) (b := n) (by decide) (by omega)).mp z; omega)) (fun c23 => ?_)
    refine g_aload_n d_X6_over_26 rfl ?_
    refine h_V0i d_X6_over_27 cl_6_249 (m_isAllDry hall_27 hI2.hN hI2.hN6) (sp_hall hall_27) (by decide) rfl (Nat.le_of_ble_eq_true rfl) (by decide) ?_
    refine g_if_eq d_X6_over_30 (fun c30 => ?_) (fun c30 => ?_)
    · refine g_aload_n d_X6_over_35 rfl ?_
      refine h_V0v d_X6_over_36 cl_6_164 (m_passTickI hall_27 hI2) (sp_hall hall_27) (by decide) rfl (Nat.le_of_ble_eq_true rfl) (by decide) ?_
      refine w_iinc (L' := [_, _, _]) d_X6_over_39 ik_1 rfl rfl rfl rfl ?_
      refine g_goto d_X6_over_42 ?_
      rw [nI_1, ← tickN_s]
      refine h_weaken (ih (n + 1) (by omega)) ?_
      intro v' h' hp
      exact ⟨by rw [hp.1, fstP, if_pos (show ovP M N g n = 0 from c30)], hp.2⟩
    · refine g_iload_n d_X6_over_33 rfl ?_
      refine h_iret d_X6_over_34 rfl ?_
      exact ⟨by rw [fstP, if_neg (show ¬ ovP M N g n = 0 from c30)], _, rfl⟩
theorem lp_over7 {h w g : Hv} {M N : Nat} (hI : HI M N g) (wN : w 7 1 = nI N) : ∀ m n, n + m = 61 → ∀ w', RepM M N (tickN M N n g) w' 9 10 → FrS w w' → GdH M_X7_over 5 22 [some (.ref 360), some (.int (nI n))] [] (mu h w') (fun v' h' => v' = some (.int (fstP (ovP M N g) m n)) ∧ ∃ w2, h' = mu h w2 ∧ FrS w w2) := by
  intro m
  induction m with
  | zero =>
    intro n hn w' hr hf
    refine g_iload_n d_X7_over_22 rfl ?_
    refine g_bipush d_X7_over_23 bk_60 ?_
    refine g_icmp_gt d_X7_over_25 (fun c25 => ?_) (fun c25 => absurd ((nI_ltI (a := 60) (b := n) (by decide) (by omega)).mpr (by omega)) c25)
    refine g_ldc d_X7_over_55 kc_X7_207 ?_
    refine h_iret d_X7_over_57 rfl ?_
    exact ⟨rfl, _, rfl, hf⟩
  | succ m ih =>
    intro n hn w' hr hf
    have hI2 := hI.tickN n
    refine g_iload_n d_X7_over_22 rfl ?_
    refine g_bipush d_X7_over_23 bk_60 ?_
    refine g_icmp_gt d_X7_over_25 (fun c25 => absurd c25 (fun z => by have := (nI_ltI (a := 60) (b := n) (by decide) (by omega)).mp z; omega)) (fun c25 => ?_)
    refine g_aload_n d_X7_over_28 rfl ?_
    refine h_V0i d_X7_over_29 cl_7_222 (m7_isAllDry hr.r0 hI.hN6 (hf.w71 wN)) sp_M (by decide) rfl (Nat.le_of_ble_eq_true rfl) (by decide) ?_
    refine g_if_eq d_X7_over_32 (fun c32 => ?_) (fun c32 => ?_)
    · refine g_aload_n d_X7_over_37 rfl ?_
      refine g_aload_n d_X7_over_38 rfl ?_
      refine h_getR d_X7_over_39 fl_7_34 sp_M rfl ?_
      refine g_aload_n d_X7_over_42 rfl ?_
      refine h_getR d_X7_over_43 fl_7_37 sp_M rfl ?_
      refine h_V2P d_X7_over_46 cl_7_174 (m7_ticksOne ar_e ar_w (Or.inr ⟨rfl, rfl⟩) hr hI2) sp_M (by decide) rfl (Nat.le_of_ble_eq_true rfl) (by decide) ?_
      intro v' h' hp
      obtain ⟨rfl, w2, rfl, hr2, hf2, hd2⟩ := hp
      refine w_iinc (L' := [_, _]) d_X7_over_49 ik_1 rfl rfl rfl rfl ?_
      refine g_goto d_X7_over_52 ?_
      rw [nI_1]
      refine h_weaken (ih (n + 1) (by omega) w2 (by rw [tickN_s]; exact hr2) (hf.tr hf2.fs)) ?_
      intro v' h' hp
      exact ⟨by rw [hp.1, fstP, if_pos (show ovP M N g n = 0 from c32)], hp.2⟩
    · refine g_iload_n d_X7_over_35 rfl ?_
      refine h_iret d_X7_over_36 rfl ?_
      exact ⟨by rw [fstP, if_neg (show ¬ ovP M N g n = 0 from c32)], _, rfl, hf⟩
theorem p_asNow {h w : Hv} : MtF M_X6_asNow 2 [.ref 0] (mu h w) (some (.ref 27)) (pu (mu h w) 27 (hv h 15)) := by
  have q := m6_asNow (h := mu h w)
  rw [mu_hv (by decide)] at q
  exact q
theorem op_over {h w : Hv} (hR : RelP h w) : OPI M_X6_over M_X7_over 4 5 [] (mu h w) := by
  obtain ⟨M, N, hM5, hN6, gM, wM, gN, wN, hZ⟩ := hR.mn
  have eM : (nI M).toInt = M := nI_toInt (by omega)
  have eN : (nI N).toInt = N := nI_toInt (by omega)
  have eM1 := nI_predI (t := M) (by omega)
  have eN1 := nI_predI (t := N) (by omega)
  refine MtH.of [some (.ref 0), none, none] pl_X6 rfl rfl ?_
  refine g_aload_n d_X6_over_0 rfl ?_
  refine h_getR d_X6_over_1 fl_6_26 sp_L rfl ?_
  refine h_V0i d_X6_over_4 cl_6_154 p_isNone (sp_hall hall_15) (by decide) rfl (Nat.le_of_ble_eq_true rfl) (by decide) ?_
  refine g_if_eq d_X6_over_7 (fun c7 => ?_) (fun c7 => ?_)
  · have hM0 : ¬ nI M = 0 := fun z => b2i_eq0.mp c7 (gM.trans z)
    obtain ⟨i0, c0, hi0, hi1, hS, hA, hO⟩ := (hZ.resolve_left (fun z => hM0 (by rw [z.1]; rfl))).2.2
    have hI := hS.1
    refine g_aload_n d_X6_over_13 rfl ?_
    refine h_V0a d_X6_over_14 cl_6_242 p_asNow sp_L (by decide) rfl (Nat.le_of_ble_eq_true rfl) (by decide) ?_
    refine w_astore_n (L' := [_, _, _]) d_X6_over_17 rfl rfl rfl ?_
    refine g_iconst d_X6_over_18 ik_0 ?_
    refine w_istore_n (L' := [_, _, _]) d_X6_over_19 rfl rfl rfl ?_
    refine h_weaken (lp_over6 (H := mu h w) hI 61 0 rfl) ?_
    intro v' h' hp
    obtain ⟨rfl, g', rfl⟩ := hp
    refine ⟨_, rfl, ?_⟩
    rw [mu_pu (by decide)]
    refine MtH.of [some (.ref 360), none] pl_X7 rfl rfl ?_
    refine g_aload_n d_X7_over_0 rfl ?_
    refine g_iconst d_X7_over_1 ik_0 ?_
    refine mm_putI d_X7_over_2 fl_7_62 sp_M rfl ?_
    refine g_aload_n d_X7_over_5 rfl ?_
    refine h_V0i d_X7_over_6 cl_7_195 (m7_isNothing ((hs_j (by decide)).trans wM)) sp_M (by decide) rfl (Nat.le_of_ble_eq_true rfl) (by decide) ?_
    refine g_if_eq d_X7_over_9 (fun c9 => ?_) (fun c9 => ?_)
    · refine g_aload_n d_X7_over_15 rfl ?_
      refine g_iconst d_X7_over_16 ik_0 ?_
      refine h_V1P d_X7_over_17 cl_7_212 (m7_goesAhead (n := 0) (hS.2.1.th hM5 hN6) hI hS.2.2.1.1 rfl (by omega)) sp_M (by decide) rfl (Nat.le_of_ble_eq_true rfl) (by decide) ?_
      intro v' h' hp
      obtain ⟨rfl, w2, rfl, hr2, hf2, hd2⟩ := hp
      refine g_iconst d_X7_over_20 ik_0 ?_
      refine w_istore_n (L' := [_, _]) d_X7_over_21 rfl rfl rfl ?_
      refine h_weaken (lp_over7 (w := hset w 0 0 0) hI ((hs_j (by decide)).trans wN) 61 0 rfl w2 hr2 hf2) ?_
      intro v' h' hp
      obtain ⟨rfl, w3, rfl, hf3⟩ := hp
      exact ⟨rfl, _, _, rfl, (hR.fc fc_27).fr (fr_thrown.tr hf3.fr)⟩
    · exact absurd (b2i_ne0.mp c9) hM0
  · refine g_ldc d_X6_over_10 kc_X6_141 ?_
    refine h_iret d_X6_over_12 rfl ?_
    refine ⟨_, rfl, ?_⟩
    refine MtH.of [some (.ref 360), none] pl_X7 rfl rfl ?_
    refine g_aload_n d_X7_over_0 rfl ?_
    refine g_iconst d_X7_over_1 ik_0 ?_
    refine mm_putI d_X7_over_2 fl_7_62 sp_M rfl ?_
    refine g_aload_n d_X7_over_5 rfl ?_
    refine h_V0i d_X7_over_6 cl_7_195 (m7_isNothing ((hs_j (by decide)).trans wM)) sp_M (by decide) rfl (Nat.le_of_ble_eq_true rfl) (by decide) ?_
    refine g_if_eq d_X7_over_9 (fun c9 => ?_) (fun c9 => ?_)
    · exact absurd (gM.symm.trans (b2i_ne0.mp c7)) (b2i_eq0.mp c9)
    · refine g_ldc d_X7_over_12 kc_X7_194 ?_
      refine h_iret d_X7_over_14 rfl ?_
      exact ⟨rfl, _, _, rfl, hR.fr fr_thrown⟩
