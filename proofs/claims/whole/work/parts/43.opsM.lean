/-! OPS: ticks -/
def PE (N t : Nat) (g : Hv) : Prop := g 0 1 = nI t ∧ ∀ l, l < N → g 9 l = 2 → ∃ e, e ≤ t ∧ g 10 l = nI e
theorem PE.s5 {N t k : Nat} {g : Hv} {v : Int32} (h : PE N t g) : PE N t (hset g 5 k v) := h
theorem PE.out {N t k l : Nat} {g : Hv} (h : PE N t g) : PE N t (outS g k l) := by
  unfold PE outS
  rw [hs_j (by decide), hs_j (by decide), hs_j (by decide)]
  by_cases hw : g 1 k ≤ 3
  · rw [if_pos hw]
    refine ⟨(hs_j (by decide)).trans h.1, fun q hq e => ?_⟩
    rw [hs_j (by decide), hs_j (by decide), hs_j (by decide)] at e
    rw [hs_j (by decide), hs_j (by decide), hs_j (by decide), hs_j (by decide)]
    by_cases z : q = l
    · subst z
      rw [hs_at] at e
      exact absurd e (by decide)
    · rw [hs_b z] at e
      exact h.2 q hq e
  · rw [if_neg hw]
    refine ⟨by rw [hs_j (by decide), hs_j (by decide)]; exact h.1, fun q hq e => ?_⟩
    rw [hs_j (by decide), hs_j (by decide), hs_j (by decide), hs_j (by decide)] at e
    rw [hs_j (by decide), hs_j (by decide), hs_j (by decide)]
    by_cases z : q = l
    · subst z
      rw [hs_at]
      exact ⟨t, Nat.le_refl t, h.1⟩
    · rw [hs_b z] at e
      rw [hs_b z, hs_j (by decide)]
      exact h.2 q hq e
theorem PE.put {N t k l : Nat} {g : Hv} (hk : k < 5) (h : PE N t g) : PE N t (putS g k l) := by
  unfold PE putS
  refine ⟨h.1, fun q hq e => ?_⟩
  rw [hs_j (by decide)] at e
  rw [hs_j (by decide), hs_j (by decide), hs_j (by decide)]
  by_cases z : q = l
  · subst z
    rw [hs_at, show (10 : Int32) + nI k = nI (10 + k) from nI_add 10 k] at e
    have := nI_inj (a := 10 + k) (b := 2) e (by omega) (by decide)
    omega
  · rw [hs_b z, hs_j (by decide)] at e
    exact h.2 q hq e
theorem PE.t1 {N t : Nat} {g : Hv} (h : PE N t g) : ∀ j, PE N t (tk1 g j).1
  | 0 => h
  | j + 1 => by
    have ih := PE.t1 h j
    by_cases e : (tk1 g j).1 4 j = -1
    · rw [tk1_no e]; exact ih
    · by_cases e2 : 0 < (tk1 g j).1 5 j - 1
      · rw [tk1_left e e2]; exact ih.s5
      · rw [tk1_out e e2]; exact ih.s5.out
theorem PE.t2 {N t : Nat} {g : Hv} {b : Int32} (h : PE N t g) : ∀ j, j ≤ 5 → PE N t (tk2 g b N j).1
  | 0, _ => h
  | j + 1, hj => by
    have ih := PE.t2 (b := b) h j (by omega)
    rcases tk2_cases g b N j with e | ⟨l, -, -, e⟩
    · rw [e]; exact ih
    · rw [e]; exact ih.put (by omega)
theorem PE.tick {M N t : Nat} {g : Hv} (h : PE N t g) (hM5 : M ≤ 5) : PE N (t + 1) (tickS g M N) := by
  have q := (h.t1 M).t2 (b := (tk1 g M).2) M hM5
  unfold tickS
  refine ⟨?_, fun l hl e => ?_⟩
  · rw [hs_at, q.1, nI_1]
  · rw [hs_j (by decide)] at e
    obtain ⟨e', h1, h2⟩ := q.2 l hl e
    exact ⟨e', by omega, (hs_j (by decide)).trans h2⟩
theorem tickS_j {M N x y : Nat} {g : Hv} (h0 : x ≠ 0) (h4 : x ≠ 4) (h5 : x ≠ 5) (h6 : x ≠ 6) (h9 : x ≠ 9) (h10 : x ≠ 10) : tickS g M N x y = g x y := by
  unfold tickS
  rw [hs_j h0, tk2_j h4 h5 h9, tk1_j h4 h5 h6 h9 h10]
theorem hv_0 {h : Hv} {o j b : Nat} (hj : 12 ≤ j) : hv h o j b = 0 := if_neg (by omega)
theorem hv_puE {H g : Hv} {o : Nat} (hg : ∀ j b, 12 ≤ j → g j b = 0) : hv (pu H o g) o = g := by
  funext j b
  by_cases hj : j < 12
  · exact hv_pu hj
  · rw [hv_0 (by omega), hg j b (by omega)]
theorem hv_tick {H h : Hv} {o q M N : Nat} : hv (pu H o (tickS (hv h q) M N)) o = tickS (hv h q) M N := hv_puE (fun j b hj => by rw [tickS_j (by omega) (by omega) (by omega) (by omega) (by omega) (by omega)]; exact hv_0 hj)
def tkH (M N : Nat) : Nat → Hv → Nat → Nat → Hv
  | 0, h, _, _ => h
  | t + 1, h, i, c => tkH M N t (pu (begH h i c) 15 (tickS (hv h 15) M N)) ((i + 1) % 24) (min c 23 + 1)
theorem beg_39 {h : Hv} {i c : Nat} : begH h i c 39 1 = nI (min c 23 + 1) := by
  rw [begH, hs_j (by decide), keepH, hs_at]
  congr 1
  split <;> omega
theorem beg_392 {h : Hv} {i c : Nat} : begH h i c 39 2 = nI ((i + 1) % 24) := by
  rw [begH, hs_j (by decide), keepH, hs_b (by decide), pu_out (by omega), hs_at]
theorem lp_ticks6 {w : Hv} {M N n : Nat} (hn : n ≤ 24) : ∀ (m t : Nat) (h : Hv) (i c : Nat), t + m = n → HI M N (hv h 15) → h 39 2 = nI i → i < 24 → h 39 1 = nI c → c ≤ 24 → GdH M_X6_ticks 4 47 [some (.ref 0), some (.int (nI n)), some (.int (nI t))] [] (pu (mu h w) 15 (hv h 15)) (fun v' h' => v' = some (.int (whS (tickN M N m (hv h 15)) 2 N)) ∧ h' = mu (tkH M N m h i c) w) := by
  intro m
  induction m with
  | zero =>
    intro t h i c ht hI hi hi2 hc hc2
    refine g_iload_n d_X6_ticks_47 rfl ?_
    refine g_iload_n d_X6_ticks_48 rfl ?_
    refine g_icmp_ge d_X6_ticks_49 (fun c49 => ?_) (fun c49 => absurd (nI_le (a := n) (b := t) (by omega) (by omega)) c49)
    refine g_aload_n d_X6_ticks_69 rfl ?_
    refine h_getR d_X6_ticks_70 fl_6_26 sp_L rfl ?_
    refine g_iconst d_X6_ticks_73 ik_2 ?_
    refine h_V1i d_X6_ticks_74 cl_6_167 (m_whichAre hall_15 hI.hN hI.hN6) (sp_hall hall_15) (by decide) rfl (Nat.le_of_ble_eq_true rfl) (by decide) ?_
    refine h_iret d_X6_ticks_77 rfl ?_
    exact ⟨rfl, mu_15.symm⟩
  | succ m ih =>
    intro t h i c ht hI hi hi2 hc hc2
    refine g_iload_n d_X6_ticks_47 rfl ?_
    refine g_iload_n d_X6_ticks_48 rfl ?_
    refine g_icmp_ge d_X6_ticks_49 (fun c49 => absurd c49 (nI_ge (a := t) (b := n) (by omega) (by omega))) (fun c49 => ?_)
    refine g_aload_n d_X6_ticks_52 rfl ?_
    refine h_V0v d_X6_ticks_53 cl_6_161 (p_beginAct hi hi2 hc hc2) sp_L (by decide) rfl (Nat.le_of_ble_eq_true rfl) (by decide) ?_
    refine g_aload_n d_X6_ticks_56 rfl ?_
    refine h_getR d_X6_ticks_57 fl_6_26 sp_L rfl ?_
    refine h_V0v d_X6_ticks_60 cl_6_164 (m_passTickI hall_15 hI) (sp_hall hall_15) (by decide) rfl (Nat.le_of_ble_eq_true rfl) (by decide) ?_
    refine w_iinc (L' := [_, _, _]) d_X6_ticks_63 ik_1 rfl rfl rfl rfl ?_
    refine g_goto d_X6_ticks_66 ?_
    have q := ih (t + 1) (pu (begH h i c) 15 (tickS (hv h 15) M N)) ((i + 1) % 24) (min c 23 + 1) (by omega) (by rw [hv_tick]; exact hI.tickS) ((pu_out (by omega)).trans beg_392) (Nat.mod_lt _ (by decide)) ((pu_out (by omega)).trans beg_39) (by omega)
    rw [nI_1]
    rw [hv_tick, ← mu_pu (by decide), pu_pu] at q
    exact q
theorem lp_ticks7 {H : Hv} {M N n : Nat} (hn : n ≤ 24) : ∀ (m t τ : Nat) (h w : Hv) (i c : Nat), t + m = n → τ + m ≤ 999 → hv h 15 0 1 = nI τ → RelP h w → HS M N (hv h 15) (w 7) (w 8) → RActs M N h w i c → (∀ j, j < N → w 11 j = nI j) → h 39 2 = nI i → i < 24 → GdH M_X7_ticks 3 51 [some (.ref 360), some (.int (nI n)), some (.int (nI t))] [] (mu H w) (fun v' h' => v' = some (.int (whS (tickN M N m (hv h 15)) 2 N)) ∧ ∃ w', h' = mu H w' ∧ RelP (tkH M N m h i c) w') := by
  intro m
  induction m with
  | zero =>
    intro t τ h w i c ht hτ eτ hR hS hA hk hi hi2
    have hN6 := hS.1.hN6
    refine g_iload_n d_X7_ticks_51 rfl ?_
    refine g_iload_n d_X7_ticks_52 rfl ?_
    refine g_icmp_ge d_X7_ticks_53 (fun c53 => ?_) (fun c53 => absurd (nI_le (a := n) (b := t) (by omega) (by omega)) c53)
    refine g_aload_n d_X7_ticks_78 rfl ?_
    refine g_aload_n d_X7_ticks_79 rfl ?_
    refine h_getR d_X7_ticks_80 fl_7_31 sp_M rfl ?_
    refine g_iconst d_X7_ticks_83 ik_2 ?_
    refine h_V2i d_X7_ticks_84 cl_7_191 (m7_howAll ar_s hS.2.1 hN6 (hS.2.1.1.2.2.2.1.symm.trans hS.1.hN)) sp_M (by decide) rfl (Nat.le_of_ble_eq_true rfl) (by decide) ?_
    refine h_iret d_X7_ticks_87 rfl ?_
    exact ⟨rfl, _, rfl, hR⟩
  | succ m ih =>
    intro t τ h w i c ht hτ eτ hR hS hA hk hi hi2
    have hM5 := hS.1.hM5
    have hN6 := hS.1.hN6
    refine g_iload_n d_X7_ticks_51 rfl ?_
    refine g_iload_n d_X7_ticks_52 rfl ?_
    refine g_icmp_ge d_X7_ticks_53 (fun c53 => absurd c53 (nI_ge (a := t) (b := n) (by omega) (by omega))) (fun c53 => ?_)
    refine g_aload_n d_X7_ticks_56 rfl ?_
    refine h_V0P d_X7_ticks_57 cl_7_198 (m7_notes (c := c) hA.2.1 hA.2.2.1) sp_M (by decide) rfl (Nat.le_of_ble_eq_true rfl) (by decide) ?_
    intro v' h' hp
    obtain ⟨rfl, w1, rfl, nt⟩ := hp
    have n7 : w1 7 = w 7 := funext (fun y => nt.1 7 y (by decide) (by omega))
    have n8 : w1 8 = w 8 := funext (fun y => nt.1 8 y (by decide) (by omega))
    have hr1 : RepM M N (hv h 15) w1 7 8 := Rep0.rm (by show Rp M N _ (w1 7) (w1 8); rw [n7, n8]; exact hS.2.1) (fun j hj => by rw [hS.2.2.1.1 j hj, nt.1 11 j (by decide) (by omega), hk j hj])
    refine g_aload_n d_X7_ticks_60 rfl ?_
    refine g_aload_n d_X7_ticks_61 rfl ?_
    refine h_getR d_X7_ticks_62 fl_7_28 sp_M rfl ?_
    refine g_aload_n d_X7_ticks_65 rfl ?_
    refine h_getR d_X7_ticks_66 fl_7_31 sp_M rfl ?_
    refine h_V2P d_X7_ticks_69 cl_7_174 (m7_ticksOne ar_d ar_s (Or.inl ⟨rfl, rfl⟩) hr1 hS.1) sp_M (by decide) rfl (Nat.le_of_ble_eq_true rfl) (by decide) ?_
    intro v' h' hp
    obtain ⟨rfl, w2, rfl, hr2, hf2, hd2⟩ := hp
    have m7 : w2 7 = w 7 := (funext (fun y => hf2 7 y (by omega) (by omega))).trans n7
    have hS2 : HS M N (tickS (hv h 15) M N) (w 7) (w2 8) := by
      obtain ⟨t0, t1, t2, t3⟩ := hS.2.2.2.2
      have pe : PE N t0 (hv h 15) := ⟨t2, t3⟩
      have pe2 := pe.tick (M := M) hM5
      have e0 : t0 = τ := nI_inj (t2.symm.trans eτ) (by omega) (by omega)
      refine ⟨hS.1.tickS, by rw [← m7]; exact hr2.r0, ⟨fun j hj => ?_, fun j hj => ?_⟩, fun k a b => ?_, t0 + 1, by omega, pe2.1, pe2.2⟩
      · rw [tickS_j (by decide) (by decide) (by decide) (by decide) (by decide) (by decide)]; exact hS.2.2.1.1 j hj
      · rw [tickS_j (by decide) (by decide) (by decide) (by decide) (by decide) (by decide)]; exact hS.2.2.1.2 j hj
      · rw [hf2 8 (13 + k) (Or.inr (by omega)) (by omega), n8]; exact hS.2.2.2.1 k a b
    have hR2 : RelP (pu (begH h i c) 15 (tickS (hv h 15) M N)) w2 := RelP.act hR hi2 hA hS nt (fun x y h1 h2 => pu_out (by omega)) (fun x y h1 h2 => hf2 x y (Or.inl h1) h2) (by rw [hv_tick]; exact hS2)
    have hA2 : RActs M N (pu (begH h i c) 15 (tickS (hv h 15) M N)) w2 ((i + 1) % 24) (min c 23 + 1) := by
      have q := RActs.note (h' := pu (begH h i c) 15 (tickS (hv h 15) M N)) (w' := w1) hi2 hA hS nt (fun x y h1 h2 => (pu_out (by omega)).trans (hs_j (by omega)))
      unfold RActs at *
      rw [show w2 7 = w1 7 from m7.trans n7.symm, show w2 12 = w1 12 from funext (fun y => hf2 12 y (by omega) (by omega)), hf2 0 23 (by omega) (by omega)]
      exact q
    refine w_iinc (L' := [_, _, _]) d_X7_ticks_72 ik_1 rfl rfl rfl rfl ?_
    refine g_goto d_X7_ticks_75 ?_
    rw [nI_1]
    have q := ih (t + 1) (τ + 1) (pu (begH h i c) 15 (tickS (hv h 15) M N)) w2 ((i + 1) % 24) (min c 23 + 1) (by omega) (by omega) (by rw [hv_tick]; unfold tickS; rw [hs_at, tk2_j (by decide) (by decide) (by decide), tk1_j (by decide) (by decide) (by decide) (by decide) (by decide), eτ, nI_1]) hR2 (by rw [hv_tick, m7]; exact hS2) hA2 (fun j hj => by rw [hf2 11 j (by omega) (by omega), nt.1 11 j (by decide) (by omega)]; exact hk j hj) ((pu_out (by omega)).trans beg_392) (Nat.mod_lt _ (by decide))
    rw [hv_tick] at q
    exact q
theorem op_ticks {h w : Hv} (hR : RelP h w) {x : Int32} : OPI M_X6_ticks M_X7_ticks 4 3 [.int x] (mu h w) := by
  obtain ⟨M, N, hM5, hN6, gM, wM, gN, wN, hZ⟩ := hR.mn
  have eM : (nI M).toInt = M := nI_toInt (by omega)
  have eN : (nI N).toInt = N := nI_toInt (by omega)
  have eM1 := nI_predI (t := M) (by omega)
  have eN1 := nI_predI (t := N) (by omega)
  rw [mu_15]
  refine MtH.of [some (.ref 0), some (.int x), none] pl_X6 rfl rfl ?_
  refine g_aload_n d_X6_ticks_0 rfl ?_
  refine h_getR d_X6_ticks_1 fl_6_26 sp_L rfl ?_
  refine h_V0i d_X6_ticks_4 cl_6_154 (m_isNone hall_15) (sp_hall hall_15) (by decide) rfl (Nat.le_of_ble_eq_true rfl) (by decide) ?_
  refine g_if_eq d_X6_ticks_7 (fun c7 => ?_) (fun c7 => ?_)
  · have hM0 : ¬ nI M = 0 := fun z => b2i_eq0.mp c7 (gM.trans z)
    obtain ⟨i0, c0, hi0, hi1, hS, hA, hO⟩ := (hZ.resolve_left (fun z => hM0 (by rw [z.1]; rfl))).2.2
    have hI := hS.1
    refine g_iload_n d_X6_ticks_13 rfl ?_
    refine g_iconst d_X6_ticks_14 ik_1 ?_
    refine g_icmp_lt d_X6_ticks_15 (fun c15 => ?_) (fun c15 => ?_)
    · refine g_ldc d_X6_ticks_24 kc_X6_66 ?_
      refine h_iret d_X6_ticks_26 rfl ?_
      refine ⟨_, rfl, ?_⟩
      rw [← mu_15]
      refine MtH.of [some (.ref 360), some (.int x), none] pl_X7 rfl rfl ?_
      refine g_aload_n d_X7_ticks_0 rfl ?_
      refine g_iconst d_X7_ticks_1 ik_0 ?_
      refine mm_putI d_X7_ticks_2 fl_7_62 sp_M rfl ?_
      refine g_aload_n d_X7_ticks_5 rfl ?_
      refine h_V0i d_X7_ticks_6 cl_7_195 (m7_isNothing ((hs_j (by decide)).trans wM)) sp_M (by decide) rfl (Nat.le_of_ble_eq_true rfl) (by decide) ?_
      refine g_if_eq d_X7_ticks_9 (fun c9 => ?_) (fun c9 => ?_)
      · refine g_iload_n d_X7_ticks_15 rfl ?_
        refine g_iconst d_X7_ticks_16 ik_1 ?_
        refine g_bipush d_X7_ticks_17 bk_24 ?_
        refine h_S3i d_X7_ticks_19 cl_7_70 m7_in (Nat.le_of_ble_eq_true rfl) (by decide) ?_
        refine g_if_ne d_X7_ticks_22 (fun c22 => ?_) (fun c22 => ?_)
        · exfalso
          simp only [b2i_eq0, b2i_ne0, Int32.lt_iff_toInt_lt, Int32.le_iff_toInt_le, t_0, t_1, t_2, t_3, t_4, t_5, t_6, t_7, t_8, t_9, t_10, t_11, t_12, t_20, t_24, t_40, t_50, t_60, t_99, t_110, t_255, t_999, t_999999, t_m1, gM, gN, eM, eN, eM1, eN1] at *
          omega
        · refine g_ldc d_X7_ticks_25 kc_X7_78 ?_
          refine h_iret d_X7_ticks_27 rfl ?_
          exact ⟨rfl, _, _, rfl, hR.fr fr_thrown⟩
      · exact absurd (b2i_ne0.mp c9) hM0
    · refine g_iload_n d_X6_ticks_18 rfl ?_
      refine g_bipush d_X6_ticks_19 bk_24 ?_
      refine g_icmp_le d_X6_ticks_21 (fun c21 => ?_) (fun c21 => ?_)
      · obtain ⟨n, hn, rfl⟩ := rngI (x := x) (B := 25) (by simp only [b2i_eq0, b2i_ne0, Int32.lt_iff_toInt_lt, Int32.le_iff_toInt_le, t_0, t_1, t_2, t_3, t_4, t_5, t_6, t_7, t_8, t_9, t_10, t_11, t_12, t_20, t_24, t_40, t_50, t_60, t_99, t_110, t_255, t_999, t_999999, t_m1, gM, gN, eM, eN, eM1, eN1] at *; omega) (by simp only [b2i_eq0, b2i_ne0, Int32.lt_iff_toInt_lt, Int32.le_iff_toInt_le, t_0, t_1, t_2, t_3, t_4, t_5, t_6, t_7, t_8, t_9, t_10, t_11, t_12, t_20, t_24, t_40, t_50, t_60, t_99, t_110, t_255, t_999, t_999999, t_m1, gM, gN, eM, eN, eM1, eN1] at *; omega)
        have en : (nI n).toInt = n := nI_toInt (by omega)
        obtain ⟨t0, t1, t2, t3⟩ := hS.2.2.2.2
        refine g_aload_n d_X6_ticks_27 rfl ?_
        refine h_getR d_X6_ticks_28 fl_6_26 sp_L rfl ?_
        refine hh_getV (v := nI t0) d_X6_ticks_31 fl_6_158 hall_15 (by decide) (t2) ?_
        refine g_iload_n d_X6_ticks_34 rfl ?_
        refine g_iadd d_X6_ticks_35 ?_
        rw [nI_add]
        refine g_sipush d_X6_ticks_36 sk_999 ?_
        refine g_icmp_le d_X6_ticks_39 (fun c39 => ?_) (fun c39 => ?_)
        · refine g_iconst d_X6_ticks_45 ik_0 ?_
          refine w_istore_n (L' := [_, _, _]) d_X6_ticks_46 rfl rfl rfl ?_
          have htn : t0 + n ≤ 999 := by
            rcases Nat.lt_or_ge 999 (t0 + n) with z | z
            · exact absurd c39 (nI_ge (a := 999) (b := t0 + n) z (by omega))
            · exact z
          refine h_weaken (lp_ticks6 (n := n) (by omega) n 0 h i0 c0 (by omega) hI hi1 hi0 hA.1 hA.2.2.1) ?_
          intro v' h' hp
          obtain ⟨rfl, rfl⟩ := hp
          refine ⟨_, rfl, ?_⟩
          refine MtH.of [some (.ref 360), some (.int (nI n)), none] pl_X7 rfl rfl ?_
          refine g_aload_n d_X7_ticks_0 rfl ?_
          refine g_iconst d_X7_ticks_1 ik_0 ?_
          refine mm_putI d_X7_ticks_2 fl_7_62 sp_M rfl ?_
          refine g_aload_n d_X7_ticks_5 rfl ?_
          refine h_V0i d_X7_ticks_6 cl_7_195 (m7_isNothing ((hs_j (by decide)).trans wM)) sp_M (by decide) rfl (Nat.le_of_ble_eq_true rfl) (by decide) ?_
          refine g_if_eq d_X7_ticks_9 (fun c9 => ?_) (fun c9 => ?_)
          · refine g_iload_n d_X7_ticks_15 rfl ?_
            refine g_iconst d_X7_ticks_16 ik_1 ?_
            refine g_bipush d_X7_ticks_17 bk_24 ?_
            refine h_S3i d_X7_ticks_19 cl_7_70 m7_in (Nat.le_of_ble_eq_true rfl) (by decide) ?_
            refine g_if_ne d_X7_ticks_22 (fun c22 => ?_) (fun c22 => ?_)
            · refine g_aload_n d_X7_ticks_28 rfl ?_
              refine h_getR d_X7_ticks_29 fl_7_31 sp_M rfl ?_
              refine g_iconst d_X7_ticks_32 ik_0 ?_
              refine mm_aldV (k := 0) (v := nI t0) d_X7_ticks_33 (j := 8) sp_m_s rfl (by decide) rfl (by omega) (by decide) ((hs_j (by decide)).trans (hS.2.1.1.2.1.symm.trans t2)) ?_
              refine g_iload_n d_X7_ticks_34 rfl ?_
              refine g_iadd d_X7_ticks_35 ?_
              refine g_sipush d_X7_ticks_36 sk_999 ?_
              refine g_icmp_le d_X7_ticks_39 (fun c39 => ?_) (fun c39 => absurd (by rw [nI_add]; exact nI_le (a := t0 + n) (b := 999) (by omega) (by decide)) c39)
              refine g_aload_n d_X7_ticks_45 rfl ?_
              refine h_V0v d_X7_ticks_46 cl_7_181 m7_ranksByNumber sp_M (by decide) rfl (Nat.le_of_ble_eq_true rfl) (by decide) ?_
              refine g_iconst d_X7_ticks_49 ik_0 ?_
              refine w_istore_n (L' := [_, _, _]) d_X7_ticks_50 rfl rfl rfl ?_
              have hf0 : FrS (hset w 0 0 0) (rkW (hset w 0 0 0) 6) := rk_fs
              have hS3 : HS M N (hv h 15) (rkW (hset w 0 0 0) 6 7) (rkW (hset w 0 0 0) 6 8) := hS.mv (fun y _ => (hf0 7 y (by decide) (by decide) (by decide) (by decide) (by decide) (by omega)).trans (hs_j (by decide))) (fun y _ => (hf0 8 y (by decide) (by decide) (by decide) (by decide) (by decide) (by omega)).trans (hs_j (by decide)))
              have hA3 : RActs M N h (rkW (hset w 0 0 0) 6) i0 c0 := by
                have q := hA.th (v := 0)
                unfold RActs at q ⊢
                rw [show rkW (hset w 0 0 0) 6 7 = hset w 0 0 0 7 from funext (fun y => hf0 7 y (by decide) (by decide) (by decide) (by decide) (by decide) (by omega)), show rkW (hset w 0 0 0) 6 12 = hset w 0 0 0 12 from funext (fun y => hf0 12 y (by decide) (by decide) (by decide) (by decide) (by decide) (by omega)), hf0 0 23 (by decide) (by decide) (by decide) (by decide) (by decide) (by omega)]
                exact q
              refine h_weaken (lp_ticks7 (n := n) (by omega) n 0 t0 h _ i0 c0 (by omega) (by omega) t2 (hR.fr (fr_thrown.tr hf0.fr)) hS3 hA3 (fun j hj => by unfold rkW; rw [if_pos ⟨rfl, by omega⟩]) hi1 hi0) ?_
              intro v' h' hp
              obtain ⟨rfl, w3, rfl, hR3⟩ := hp
              exact ⟨rfl, _, _, rfl, hR3⟩
            · exfalso
              simp only [b2i_eq0, b2i_ne0, Int32.lt_iff_toInt_lt, Int32.le_iff_toInt_le, t_0, t_1, t_2, t_3, t_4, t_5, t_6, t_7, t_8, t_9, t_10, t_11, t_12, t_20, t_24, t_40, t_50, t_60, t_99, t_110, t_255, t_999, t_999999, t_m1, en, gM, gN, eM, eN, eM1, eN1] at *
              omega
          · exact absurd (b2i_ne0.mp c9) hM0
        · refine g_ldc d_X6_ticks_42 kc_X6_119 ?_
          refine h_iret d_X6_ticks_44 rfl ?_
          refine ⟨_, rfl, ?_⟩
          rw [← mu_15]
          have k39 := c39
          refine MtH.of [some (.ref 360), some (.int (nI n)), none] pl_X7 rfl rfl ?_
          refine g_aload_n d_X7_ticks_0 rfl ?_
          refine g_iconst d_X7_ticks_1 ik_0 ?_
          refine mm_putI d_X7_ticks_2 fl_7_62 sp_M rfl ?_
          refine g_aload_n d_X7_ticks_5 rfl ?_
          refine h_V0i d_X7_ticks_6 cl_7_195 (m7_isNothing ((hs_j (by decide)).trans wM)) sp_M (by decide) rfl (Nat.le_of_ble_eq_true rfl) (by decide) ?_
          refine g_if_eq d_X7_ticks_9 (fun c9 => ?_) (fun c9 => ?_)
          · refine g_iload_n d_X7_ticks_15 rfl ?_
            refine g_iconst d_X7_ticks_16 ik_1 ?_
            refine g_bipush d_X7_ticks_17 bk_24 ?_
            refine h_S3i d_X7_ticks_19 cl_7_70 m7_in (Nat.le_of_ble_eq_true rfl) (by decide) ?_
            refine g_if_ne d_X7_ticks_22 (fun c22 => ?_) (fun c22 => ?_)
            · refine g_aload_n d_X7_ticks_28 rfl ?_
              refine h_getR d_X7_ticks_29 fl_7_31 sp_M rfl ?_
              refine g_iconst d_X7_ticks_32 ik_0 ?_
              refine mm_aldV (k := 0) (v := nI t0) d_X7_ticks_33 (j := 8) sp_m_s rfl (by decide) rfl (by omega) (by decide) ((hs_j (by decide)).trans (hS.2.1.1.2.1.symm.trans t2)) ?_
              refine g_iload_n d_X7_ticks_34 rfl ?_
              refine g_iadd d_X7_ticks_35 ?_
              rw [nI_add]
              refine g_sipush d_X7_ticks_36 sk_999 ?_
              refine g_icmp_le d_X7_ticks_39 (fun c39 => absurd c39 k39) (fun c39 => ?_)
              refine g_ldc d_X7_ticks_42 kc_X7_92 ?_
              refine h_iret d_X7_ticks_44 rfl ?_
              exact ⟨rfl, _, _, rfl, hR.fr fr_thrown⟩
            · exfalso
              simp only [b2i_eq0, b2i_ne0, Int32.lt_iff_toInt_lt, Int32.le_iff_toInt_le, t_0, t_1, t_2, t_3, t_4, t_5, t_6, t_7, t_8, t_9, t_10, t_11, t_12, t_20, t_24, t_40, t_50, t_60, t_99, t_110, t_255, t_999, t_999999, t_m1, en, gM, gN, eM, eN, eM1, eN1] at *
              omega
          · exact absurd (b2i_ne0.mp c9) hM0
      · refine g_ldc d_X6_ticks_24 kc_X6_66 ?_
        refine h_iret d_X6_ticks_26 rfl ?_
        refine ⟨_, rfl, ?_⟩
        rw [← mu_15]
        refine MtH.of [some (.ref 360), some (.int x), none] pl_X7 rfl rfl ?_
        refine g_aload_n d_X7_ticks_0 rfl ?_
        refine g_iconst d_X7_ticks_1 ik_0 ?_
        refine mm_putI d_X7_ticks_2 fl_7_62 sp_M rfl ?_
        refine g_aload_n d_X7_ticks_5 rfl ?_
        refine h_V0i d_X7_ticks_6 cl_7_195 (m7_isNothing ((hs_j (by decide)).trans wM)) sp_M (by decide) rfl (Nat.le_of_ble_eq_true rfl) (by decide) ?_
        refine g_if_eq d_X7_ticks_9 (fun c9 => ?_) (fun c9 => ?_)
        · refine g_iload_n d_X7_ticks_15 rfl ?_
          refine g_iconst d_X7_ticks_16 ik_1 ?_
          refine g_bipush d_X7_ticks_17 bk_24 ?_
          refine h_S3i d_X7_ticks_19 cl_7_70 m7_in (Nat.le_of_ble_eq_true rfl) (by decide) ?_
          refine g_if_ne d_X7_ticks_22 (fun c22 => ?_) (fun c22 => ?_)
          · exfalso
            simp only [b2i_eq0, b2i_ne0, Int32.lt_iff_toInt_lt, Int32.le_iff_toInt_le, t_0, t_1, t_2, t_3, t_4, t_5, t_6, t_7, t_8, t_9, t_10, t_11, t_12, t_20, t_24, t_40, t_50, t_60, t_99, t_110, t_255, t_999, t_999999, t_m1, gM, gN, eM, eN, eM1, eN1] at *
            omega
          · refine g_ldc d_X7_ticks_25 kc_X7_78 ?_
            refine h_iret d_X7_ticks_27 rfl ?_
            exact ⟨rfl, _, _, rfl, hR.fr fr_thrown⟩
        · exact absurd (b2i_ne0.mp c9) hM0
  · refine g_ldc d_X6_ticks_10 kc_X6_141 ?_
    refine h_iret d_X6_ticks_12 rfl ?_
    refine ⟨_, rfl, ?_⟩
    rw [← mu_15]
    refine MtH.of [some (.ref 360), some (.int x), none] pl_X7 rfl rfl ?_
    refine g_aload_n d_X7_ticks_0 rfl ?_
    refine g_iconst d_X7_ticks_1 ik_0 ?_
    refine mm_putI d_X7_ticks_2 fl_7_62 sp_M rfl ?_
    refine g_aload_n d_X7_ticks_5 rfl ?_
    refine h_V0i d_X7_ticks_6 cl_7_195 (m7_isNothing ((hs_j (by decide)).trans wM)) sp_M (by decide) rfl (Nat.le_of_ble_eq_true rfl) (by decide) ?_
    refine g_if_eq d_X7_ticks_9 (fun c9 => ?_) (fun c9 => ?_)
    · exact absurd (gM.symm.trans (b2i_ne0.mp c7)) (b2i_eq0.mp c9)
    · refine g_ldc d_X7_ticks_12 kc_X7_194 ?_
      refine h_iret d_X7_ticks_14 rfl ?_
      exact ⟨rfl, _, _, rfl, hR.fr fr_thrown⟩
