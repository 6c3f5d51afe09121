/-! OPS: launderette -/
def inW (w : Hv) (j : Nat) : Hv := fun x y => if x = 8 ∧ 3 ≤ y ∧ y < 3 + j then -1 else w x y
theorem inW_s {w : Hv} {j : Nat} : hset (inW w j) 8 (3 + j) (-1) = inW w (j + 1) := by
  funext x y
  unfold hset inW
  by_cases h1 : x = 8 ∧ y = 3 + j
  · rw [if_pos h1, if_pos (by omega)]
  · rw [if_neg h1]
    by_cases h2 : x = 8 ∧ 3 ≤ y ∧ y < 3 + j
    · rw [if_pos h2, if_pos (by omega)]
    · rw [if_neg h2, if_neg (by omega)]
theorem inW_0 {w : Hv} : inW w 0 = w := by
  funext x y
  unfold inW
  rw [if_neg (by omega)]
theorem inW_j {w : Hv} {j x y : Nat} (h : x ≠ 8) : inW w j x y = w x y := if_neg (fun z => h z.1)
theorem cpW_j {w : Hv} {a b j x y : Nat} (h : x ≠ b) : cpW w a b j x y = w x y := if_neg (fun z => h z.1)
theorem cpW_at {w : Hv} {a b j y : Nat} (h : y < j) : cpW w a b j b y = w a y := if_pos ⟨rfl, h⟩
theorem lp_ld {h w : Hv} {P : Option Value → Hv → Prop} (kx : GdH M_X7_launderette 5 63 [some (.ref 360), some (.int (nI 17))] [] (mu h (cpW w 5 7 17)) P) : ∀ (n j : Nat), j + n = 17 → GdH M_X7_launderette 5 39 [some (.ref 360), some (.int (nI j))] [] (mu h (cpW w 5 7 j)) P := by
  intro n
  induction n with
  | zero =>
    intro j hj
    have hj' : j = 17 := by omega
    rw [hj']
    refine g_iload_n d_X7_launderette_39 rfl ?_
    refine g_bipush d_X7_launderette_40 bk_17 ?_
    refine g_icmp_ge d_X7_launderette_42 (fun c42 => ?_) (fun c42 => absurd (nI_le (a := 17) (b := 17) (Nat.le_refl _) (by omega)) c42)
    exact kx
  | succ n ih =>
    intro j hj
    refine g_iload_n d_X7_launderette_39 rfl ?_
    refine g_bipush d_X7_launderette_40 bk_17 ?_
    refine g_icmp_ge d_X7_launderette_42 (fun c42 => absurd c42 (nI_ge (a := j) (b := 17) (by omega) (by omega))) (fun c42 => ?_)
    refine g_aload_n d_X7_launderette_45 rfl ?_
    refine h_getR d_X7_launderette_46 fl_7_28 sp_M rfl ?_
    refine g_iload_n d_X7_launderette_49 rfl ?_
    refine g_aload_n d_X7_launderette_50 rfl ?_
    refine h_getR d_X7_launderette_51 fl_7_22 sp_M rfl ?_
    refine g_iload_n d_X7_launderette_54 rfl ?_
    refine mm_aldE (k := j) d_X7_launderette_55 (j := 5) sp_m_draft rfl (by decide) rfl (by omega) (by decide) ?_
    refine mm_astE (k := j) d_X7_launderette_56 (j := 7) sp_m_d rfl (by decide) rfl (by omega) (by decide) ?_
    refine w_iinc (L' := [_, _]) d_X7_launderette_57 ik_1 rfl rfl rfl rfl ?_
    refine g_goto d_X7_launderette_60 ?_
    have q := ih (j + 1) (by omega)
    rw [cpW_s (by decide)] at q
    rw [nI_1]
    exact q
theorem lp_ls {h w : Hv} {P : Option Value → Hv → Prop} (kx : GdH M_X7_launderette 5 89 [some (.ref 360), some (.int (nI 42))] [] (mu h (cpW w 6 8 42)) P) : ∀ (n j : Nat), j + n = 42 → GdH M_X7_launderette 5 65 [some (.ref 360), some (.int (nI j))] [] (mu h (cpW w 6 8 j)) P := by
  intro n
  induction n with
  | zero =>
    intro j hj
    have hj' : j = 42 := by omega
    rw [hj']
    refine g_iload_n d_X7_launderette_65 rfl ?_
    refine g_bipush d_X7_launderette_66 bk_42 ?_
    refine g_icmp_ge d_X7_launderette_68 (fun c68 => ?_) (fun c68 => absurd (nI_le (a := 42) (b := 42) (Nat.le_refl _) (by omega)) c68)
    exact kx
  | succ n ih =>
    intro j hj
    refine g_iload_n d_X7_launderette_65 rfl ?_
    refine g_bipush d_X7_launderette_66 bk_42 ?_
    refine g_icmp_ge d_X7_launderette_68 (fun c68 => absurd c68 (nI_ge (a := j) (b := 42) (by omega) (by omega))) (fun c68 => ?_)
    refine g_aload_n d_X7_launderette_71 rfl ?_
    refine h_getR d_X7_launderette_72 fl_7_31 sp_M rfl ?_
    refine g_iload_n d_X7_launderette_75 rfl ?_
    refine g_aload_n d_X7_launderette_76 rfl ?_
    refine h_getR d_X7_launderette_77 fl_7_25 sp_M rfl ?_
    refine g_iload_n d_X7_launderette_80 rfl ?_
    refine mm_aldE (k := j) d_X7_launderette_81 (j := 6) sp_m_draftNow rfl (by decide) rfl (by omega) (by decide) ?_
    refine mm_astE (k := j) d_X7_launderette_82 (j := 8) sp_m_s rfl (by decide) rfl (by omega) (by decide) ?_
    refine w_iinc (L' := [_, _]) d_X7_launderette_83 ik_1 rfl rfl rfl rfl ?_
    refine g_goto d_X7_launderette_86 ?_
    have q := ih (j + 1) (by omega)
    rw [cpW_s (by decide)] at q
    rw [nI_1]
    exact q
theorem lp_li {h w : Hv} {P : Option Value → Hv → Prop} (kx : GdH M_X7_launderette 5 127 [some (.ref 360), some (.int (nI 5))] [] (mu h (inW w 5)) P) : ∀ (n j : Nat), j + n = 5 → GdH M_X7_launderette 5 107 [some (.ref 360), some (.int (nI j))] [] (mu h (inW w j)) P := by
  intro n
  induction n with
  | zero =>
    intro j hj
    have hj' : j = 5 := by omega
    rw [hj']
    refine g_iload_n d_X7_launderette_107 rfl ?_
    refine g_iconst d_X7_launderette_108 ik_5 ?_
    refine g_icmp_ge d_X7_launderette_109 (fun c109 => ?_) (fun c109 => absurd (nI_le (a := 5) (b := 5) (Nat.le_refl _) (by omega)) c109)
    exact kx
  | succ n ih =>
    intro j hj
    refine g_iload_n d_X7_launderette_107 rfl ?_
    refine g_iconst d_X7_launderette_108 ik_5 ?_
    refine g_icmp_ge d_X7_launderette_109 (fun c109 => absurd c109 (nI_ge (a := j) (b := 5) (by omega) (by omega))) (fun c109 => ?_)
    refine g_aload_n d_X7_launderette_112 rfl ?_
    refine h_getR d_X7_launderette_113 fl_7_31 sp_M rfl ?_
    refine g_iconst d_X7_launderette_116 ik_3 ?_
    refine g_iload_n d_X7_launderette_117 rfl ?_
    refine g_iadd d_X7_launderette_118 ?_
    refine g_iconst d_X7_launderette_119 ik_m1 ?_
    refine mm_astE (k := (3 + j)) d_X7_launderette_120 (j := 8) sp_m_s rfl (by decide) (nAdd rfl rfl) (by omega) (by decide) ?_
    refine w_iinc (L' := [_, _]) d_X7_launderette_121 ik_1 rfl rfl rfl rfl ?_
    refine g_goto d_X7_launderette_124 ?_
    have q := ih (j + 1) (by omega)
    rw [← inW_s] at q
    rw [nI_1]
    exact q
theorem RelP.tape {h w : Hv} (hR : RelP h w) : ∃ (b : Nat → Nat) (L : Nat), CB b L (mu h w) ∧ RB b L (hset w 0 0 0) := by
  obtain ⟨-, n, hn, h1, h2, h3⟩ := hR.2.2.1
  have hx : ∀ k, ∃ c, k < n → c < 256 ∧ w 4 k = nI c := fun k => by
    by_cases z : k < n
    · obtain ⟨-, c, c1, c2⟩ := h3 k z
      exact ⟨c, fun _ => ⟨c1, c2⟩⟩
    · exact ⟨0, fun y => absurd y z⟩
  refine ⟨fun k => Classical.choose (hx k), n, ⟨(mu_low (by decide)).trans h1, hn, fun k hk => ?_⟩, ⟨(hs_b (by decide)).trans h2, hn, fun k hk => ?_⟩⟩
  · have q := Classical.choose_spec (hx k) hk
    exact ⟨(mu_low (by decide)).trans ((h3 k hk).1.trans q.2), q.1⟩
  · have q := Classical.choose_spec (hx k) hk
    exact ⟨(hs_j (by decide)).trans q.2, q.1⟩
theorem mu_self {h w H : Hv} (e : ∀ x y, 360 ≤ x → H x y = mu h w x y) : H = mu H w := by
  funext x y
  by_cases hx : 360 ≤ x ∧ x < 378
  · rw [e x y hx.1]
    unfold mu blk
    rw [if_pos (by omega), if_pos (by omega)]
  · rw [show mu H w x y = H x y from blk_out (by omega)]
/-- a text that can't stand: the tape is empty, its fault noted -/
theorem RelP.badly {h w H w' : Hv} {e : Nat × Nat} (hR : RelP h w) (f : FLh (mu h w) H e) (y : FY (hset w 0 0 0) w' e) : RelP (hset H 13 1 0) (hset (hset w' 0 6 0) 0 13 (nI e.1)) := by
  have fr : ∀ x, x ≠ 0 → x ≠ 5 → x ≠ 6 → hset (hset w' 0 6 0) 0 13 (nI e.1) x = w x := fun x h1 h2 h3 => funext (fun y' => by rw [hs_j h1, hs_j h1, y.1 x y' h2 h3 (by omega), hs_j h1])
  have f0 : ∀ y', y' ≠ 0 → y' ≠ 6 → y' ≠ 13 → ¬ (7 ≤ y' ∧ y' ≤ 12) → hset (hset w' 0 6 0) 0 13 (nI e.1) 0 y' = w 0 y' := fun y' h1 h2 h3 h4 => by rw [hs_b h3, hs_b h2, y.1 0 y' (by decide) (by decide) (by omega), hs_b h1]
  have oh : ∀ x y', x < 360 → ¬ x = 13 → ¬ (27 ≤ x ∧ x ≤ 38) → hset H 13 1 0 x y' = h x y' := fun x y' h1 h2 h3 => by rw [hs_j h2, f.1 x y' (by omega) h3, mu_low h1]
  refine ⟨?_, ?_, ?_, ?_, ?_, ?_⟩
  · unfold RStat
    rw [oh _ _ (by omega) (by omega) (by omega), f0 _ (by decide) (by decide) (by decide) (by decide)]
    exact hR.1
  · exact hR.2.1.cg (fun x y' h1 h2 => oh _ _ (by omega) (by omega) (by omega)) (fr _ (by decide) (by decide) (by decide)) (fr _ (by decide) (by decide) (by decide)) (fr _ (by decide) (by decide) (by decide))
  · refine ⟨?_, 0, by omega, hs_at, (hs_b (by decide)).trans hs_at, fun k hk => absurd hk (by omega)⟩
    rw [hs_b (by decide), hs_at]
    exact f.2.1
  · exact hR.2.2.2.1.cg (fun x y' q => oh _ _ (by omega) (by omega) (by omega)) (fr _ (by decide) (by decide) (by decide)) (fr _ (by decide) (by decide) (by decide)) (fr _ (by decide) (by decide) (by decide)) (f0 _ (by decide) (by decide) (by decide) (by decide))
  · exact hR.2.2.2.2.1.cg (fun x y' h1 h2 => oh _ _ (by omega) (by omega) (by omega)) (fr _ (by decide) (by decide) (by decide)) (fr _ (by decide) (by decide) (by decide))
  · exact hR.2.2.2.2.2.cg (fun x y' q => oh _ _ (by omega) (by omega) (by omega)) (f0 _ (by decide) (by decide) (by decide) (by decide)) (fr _ (by decide) (by decide) (by decide))
theorem op_launderette {h w : Hv} (hR : RelP h w) : OPI M_X6_launderette M_X7_launderette 7 5 [] (mu h w) := by
  obtain ⟨b, L, cb, rb⟩ := hR.tape
  refine MtH.of [some (.ref 0), none] pl_X6 rfl rfl ?_
  refine g_aload_n d_X6_launderette_0 rfl ?_
  refine h_getR d_X6_launderette_1 fl_6_19 sp_L rfl ?_
  refine g_aload_n d_X6_launderette_4 rfl ?_
  refine h_getR d_X6_launderette_5 fl_6_30 sp_L rfl ?_
  refine h_V1P d_X6_launderette_8 cl_6_120 (m5_readInto (g := hv h 27) cb (fun j y hj => by rw [hv_at hj]; exact mu_low (by omega))) sp_Tape (by decide) rfl (Nat.le_of_ble_eq_true rfl) (by decide) ?_
  intro u1 H1 hp1
  cases hq1 : pAll b L (hv h 27) with
  | error e =>
    rw [hq1] at hp1
    obtain ⟨rfl, f1⟩ := hp1
    have eH : hset H1 13 1 0 = mu (hset H1 13 1 0) w := mu_self (h := h) (fun x y hx => by rw [hs_j (by omega)]; exact f1.1 x y (by omega) (by omega))
    refine w_istore_n (L' := [_, _]) d_X6_launderette_11 rfl rfl rfl ?_
    refine g_aload_n d_X6_launderette_12 rfl ?_
    refine h_getR d_X6_launderette_13 fl_6_19 sp_L rfl ?_
    refine g_iconst d_X6_launderette_16 ik_0 ?_
    refine h_putI d_X6_launderette_17 fl_6_116 sp_Tape rfl ?_
    refine g_iload_n d_X6_launderette_20 rfl ?_
    refine g_if_ne d_X6_launderette_21 (fun c21 => absurd rfl c21) (fun c21 => ?_)
    refine g_ldc d_X6_launderette_24 kc_X6_124 ?_
    refine g_aload_n d_X6_launderette_26 rfl ?_
    refine h_getR d_X6_launderette_27 fl_6_19 sp_L rfl ?_
    refine h_getV (v := nI e.2) d_X6_launderette_30 fl_6_125 sp_Tape rfl ((hs_b (by decide)).trans f1.2.2) ?_
    refine g_isub d_X6_launderette_33 ?_
    refine h_iret d_X6_launderette_34 rfl ?_
    refine ⟨_, rfl, ?_⟩
    rw [eH]
    refine MtH.of [some (.ref 360), none] pl_X7 rfl rfl ?_
    refine g_aload_n d_X7_launderette_0 rfl ?_
    refine g_iconst d_X7_launderette_1 ik_0 ?_
    refine mm_putI d_X7_launderette_2 fl_7_62 sp_M rfl ?_
    refine g_aload_n d_X7_launderette_5 rfl ?_
    refine h_V0P d_X7_launderette_6 cl_7_142 (m7_reads (g0 := hv h 27) rb) sp_M (by decide) rfl (Nat.le_of_ble_eq_true rfl) (by decide) ?_
    intro u2 k2 hp2
    obtain ⟨rfl, w2, rfl, hp2⟩ := hp2
    rw [hq1] at hp2
    refine g_aload_n d_X7_launderette_9 rfl ?_
    refine g_iconst d_X7_launderette_10 ik_0 ?_
    refine mm_putI d_X7_launderette_11 fl_7_89 sp_M rfl ?_
    refine g_aload_n d_X7_launderette_14 rfl ?_
    refine h_V0i d_X7_launderette_15 cl_7_111 (m7_isWell (v := nI e.1) ((hs_b (by decide)).trans hp2.2.1)) sp_M (by decide) rfl (Nat.le_of_ble_eq_true rfl) (by decide) ?_
    refine g_if_ne d_X7_launderette_18 (fun c18 => absurd (b2i_f (nI_ne0 hp2.2.2.2.1 (by have := hp2.2.2.2.2; omega))) c18) (fun c18 => ?_)
    refine g_aload_n d_X7_launderette_21 rfl ?_
    refine g_aload_n d_X7_launderette_22 rfl ?_
    refine mm_getV (v := nI e.1) d_X7_launderette_23 fl_7_108 sp_M rfl ((hs_b (by decide)).trans hp2.2.1) ?_
    refine mm_putI d_X7_launderette_26 fl_7_145 sp_M rfl ?_
    refine g_ldc d_X7_launderette_29 kc_X7_148 ?_
    refine g_aload_n d_X7_launderette_31 rfl ?_
    refine mm_getV (v := nI e.2) d_X7_launderette_32 fl_7_115 sp_M rfl ((hs_b (by decide)).trans ((hs_b (by decide)).trans hp2.2.2.1)) ?_
    refine g_isub d_X7_launderette_35 ?_
    refine h_iret d_X7_launderette_36 rfl ?_
    exact ⟨rfl, _, _, rfl, hR.badly f1 hp2⟩
  | ok r1 =>
    obtain ⟨M, N, g'⟩ := r1
    have hok := pAll_ok hq1
    rw [hq1] at hp1
    obtain ⟨rfl, f1, hg1⟩ := hp1
    have eH : hset H1 13 1 0 = mu (hset H1 13 1 0) w := mu_self (h := h) (fun x y hx => by rw [hs_j (by omega)]; exact f1 x y (by omega) (by omega))
    refine w_istore_n (L' := [_, _]) d_X6_launderette_11 rfl rfl rfl ?_
    refine g_aload_n d_X6_launderette_12 rfl ?_
    refine h_getR d_X6_launderette_13 fl_6_19 sp_L rfl ?_
    refine g_iconst d_X6_launderette_16 ik_0 ?_
    refine h_putI d_X6_launderette_17 fl_6_116 sp_Tape rfl ?_
    refine g_iload_n d_X6_launderette_20 rfl ?_
    refine g_if_ne d_X6_launderette_21 (fun c21 => ?_) (fun c21 => absurd c21 (by decide))
    refine g_aload_n d_X6_launderette_35 rfl ?_
    refine g_aload_n d_X6_launderette_36 rfl ?_
    refine h_getR d_X6_launderette_37 fl_6_30 sp_L rfl ?_
    refine h_V1v d_X6_launderette_40 cl_6_128 (m6_replaceHall hall_27 (by decide)) sp_L (by decide) rfl (Nat.le_of_ble_eq_true rfl) (by decide) ?_
    refine g_aload_n d_X6_launderette_43 rfl ?_
    refine h_getR d_X6_launderette_44 fl_6_26 sp_L rfl ?_
    refine h_getV (v := nI M) d_X6_launderette_47 fl_6_132 (sp_hall hall_15) rfl ((show replH (hset H1 13 1 0) 27 15 2 = nI M from ((hv_at (j := 0) (by decide)).symm.trans (hv_repl (by decide))).trans ((hv_at (by decide)).trans ((hs_j (by decide)).trans ((hg1 0 2 (by decide)).trans hok.1.1.1))))) ?_
    refine h_iret d_X6_launderette_50 rfl ?_
    refine ⟨_, rfl, ?_⟩
    rw [eH, repl_mu (by decide)]
    refine MtH.of [some (.ref 360), none] pl_X7 rfl rfl ?_
    refine g_aload_n d_X7_launderette_0 rfl ?_
    refine g_iconst d_X7_launderette_1 ik_0 ?_
    refine mm_putI d_X7_launderette_2 fl_7_62 sp_M rfl ?_
    refine g_aload_n d_X7_launderette_5 rfl ?_
    refine h_V0P d_X7_launderette_6 cl_7_142 (m7_reads (g0 := hv h 27) rb) sp_M (by decide) rfl (Nat.le_of_ble_eq_true rfl) (by decide) ?_
    intro u2 k2 hp2
    obtain ⟨rfl, w2, rfl, hp2⟩ := hp2
    rw [hq1] at hp2
    obtain ⟨hf2, h011, dr⟩ := hp2
    refine g_aload_n d_X7_launderette_9 rfl ?_
    refine g_iconst d_X7_launderette_10 ik_0 ?_
    refine mm_putI d_X7_launderette_11 fl_7_89 sp_M rfl ?_
    refine g_aload_n d_X7_launderette_14 rfl ?_
    refine h_V0i d_X7_launderette_15 cl_7_111 (m7_isWell (v := 0) ((hs_b (by decide)).trans h011)) sp_M (by decide) rfl (Nat.le_of_ble_eq_true rfl) (by decide) ?_
    refine g_if_ne d_X7_launderette_18 (fun c18 => ?_) (fun c18 => absurd c18 (by decide))
    refine g_iconst d_X7_launderette_37 ik_0 ?_
    refine w_istore_n (L' := [_, _]) d_X7_launderette_38 rfl rfl rfl ?_
    rw [show mu (replH (hset H1 13 1 0) 27) (hset w2 0 6 0) = mu (replH (hset H1 13 1 0) 27) (cpW (hset w2 0 6 0) 5 7 0) by rw [cpW_0]]
    refine lp_ld ?_ 17 0 rfl
    refine g_iconst d_X7_launderette_63 ik_0 ?_
    refine w_istore_n (L' := [_, _]) d_X7_launderette_64 rfl rfl rfl ?_
    rw [show mu (replH (hset H1 13 1 0) 27) (cpW (hset w2 0 6 0) 5 7 17) = mu (replH (hset H1 13 1 0) 27) (cpW (cpW (hset w2 0 6 0) 5 7 17) 6 8 0) by rw [cpW_0]]
    refine lp_ls ?_ 42 0 rfl
    refine g_aload_n d_X7_launderette_89 rfl ?_
    refine h_getR d_X7_launderette_90 fl_7_31 sp_M rfl ?_
    refine g_iconst d_X7_launderette_93 ik_2 ?_
    refine g_iconst d_X7_launderette_94 ik_1 ?_
    refine g_aload_n d_X7_launderette_95 rfl ?_
    refine h_getR d_X7_launderette_96 fl_7_28 sp_M rfl ?_
    refine g_iconst d_X7_launderette_99 ik_0 ?_
    refine mm_aldV (k := 0) (v := nI M) d_X7_launderette_100 (j := 7) sp_m_d rfl (by decide) rfl (by omega) (by decide) (by rw [cpW_j (by decide), cpW_at (by decide), hs_j (by decide)]; exact dr.1) ?_
    refine g_ishl d_X7_launderette_101 ?_
    rw [sh1 M (by have := hok.1.1.2.1; omega)]
    refine g_iconst d_X7_launderette_102 ik_1 ?_
    refine g_isub d_X7_launderette_103 ?_
    rw [show nI (2 ^ M) - 1 = nI (2 ^ M - 1) from pk_sub (b := 1) Nat.one_le_two_pow]
    refine mm_astE (k := 2) d_X7_launderette_104 (j := 8) sp_m_s rfl (by decide) rfl (by omega) (by decide) ?_
    refine g_iconst d_X7_launderette_105 ik_0 ?_
    refine w_istore_n (L' := [_, _]) d_X7_launderette_106 rfl rfl rfl ?_
    rw [show mu (replH (hset H1 13 1 0) 27) (hset (cpW (cpW (hset w2 0 6 0) 5 7 17) 6 8 42) 8 2 (nI (2 ^ M - 1))) = mu (replH (hset H1 13 1 0) 27) (inW (hset (cpW (cpW (hset w2 0 6 0) 5 7 17) 6 8 42) 8 2 (nI (2 ^ M - 1))) 0) by rw [inW_0]]
    refine lp_li ?_ 5 0 rfl
    refine g_aload_n d_X7_launderette_127 rfl ?_
    refine g_iconst d_X7_launderette_128 ik_0 ?_
    refine mm_putI d_X7_launderette_129 fl_7_149 sp_M rfl ?_
    refine g_aload_n d_X7_launderette_132 rfl ?_
    refine h_getR d_X7_launderette_133 fl_7_28 sp_M rfl ?_
    refine g_iconst d_X7_launderette_136 ik_0 ?_
    refine mm_aldV (k := 0) (v := nI M) d_X7_launderette_137 (j := 7) sp_m_d rfl (by decide) rfl (by omega) (by decide) (by rw [hs_j (by decide), inW_j (by decide), hs_j (by decide), cpW_j (by decide), cpW_at (by decide), hs_j (by decide)]; exact dr.1) ?_
    refine h_iret d_X7_launderette_138 rfl ?_
    have hH : hset H1 13 1 0 = mu (hset H1 13 1 0) w := eH
    refine ⟨rfl, _, _, rfl, repl_end (w := w) hR (HS.ext (g := g') (fun j y hj => ?_) (HS_told hok.1 hok.2.1 hok.2.2.1 hok.2.2.2 dr (fun y hy => ?_) (fun y hy => ?_))) repl_39 repl_330 (fun x y a1 a2 a3 a4 a5 a6 => ?_) ⟨?_, 0, by omega, ?_, ?_, fun k hk => absurd hk (by omega)⟩ hs_at (fun x y a1 a2 a3 a4 a5 => ?_)⟩
    · rw [hv_repl hj, hv_at hj, hs_j (by omega)]; exact hg1 j y hj
    · rw [hs_j (by decide), inW_j (by decide), hs_j (by decide), cpW_j (by decide), cpW_at hy, hs_j (by decide)]
    · rw [hs_j (by decide)]
      unfold inW
      by_cases z1 : y = 2
      · rw [if_neg (by omega), if_pos z1, z1, hs_at]
      · rw [if_neg z1]
        by_cases z2 : 3 ≤ y ∧ y < 8
        · rw [if_pos (by omega), if_pos z2]
        · rw [if_neg (by omega), if_neg z2, hs_b z1, cpW_at hy, cpW_j (by decide), hs_j (by decide)]
    · rw [repl_out a1 a2 a3, hs_j a5, f1 x y (by omega) a4, mu_low a6]
    · rw [repl_out (by omega) (by omega) (by omega), hs_b (by decide), f1 _ _ (by omega) (by omega), mu_low (by decide), hs_b (by decide), inW_j (by decide), hs_j (by decide), cpW_j (by decide), cpW_j (by decide), hs_b (by decide), hf2 _ _ (by decide) (by decide) (by omega), hs_b (by decide)]
      exact hR.2.2.1.1
    · rw [repl_out (by omega) (by omega) (by omega), hs_at]; rfl
    · rw [hs_b (by decide), inW_j (by decide), hs_j (by decide), cpW_j (by decide), cpW_j (by decide), hs_at]; rfl
    · rw [hs_ne (by omega), inW_j a2, hs_j a2, cpW_j a2, cpW_j a1, hs_ne (by omega), hf2 x y a3 a4 (by omega), hs_ne (by omega)]
