/-! OPS: share, fills -/
theorem doneS_n {M N : Nat} {g : Hv} (hI : HI M N g) : ∀ j, j ≤ M → ∃ D, D ≤ 999 * j ∧ doneS g j = nI D
  | 0, _ => ⟨0, Nat.le_refl 0, rfl⟩
  | j + 1, hj => by
    obtain ⟨D, h1, h2⟩ := doneS_n hI j (by omega)
    obtain ⟨q, b, c, d, -, -, -, -, -, -, -, -, hd, e6⟩ := hI.mach j (by omega)
    exact ⟨D + d, by omega, by rw [doneS, h2, e6, nI_add]⟩
def ovS (g : Hv) (n a : Int32) : Nat → Int32
  | 0 => n
  | j + 1 => ovS g n a j - n * g 6 j / a
def bfS (g : Hv) : Nat → Int32
  | 0 => 0
  | j + 1 => bfS g j + (if g 6 j ≤ 0 then 0 else 1)
def bfC (g : Hv) (r : Nat) : Nat → Int32
  | 0 => 0
  | j + 1 => if j < r ∧ ¬ g 6 j ≤ 0 then bfC g r j + 1 else bfC g r j
theorem bfC_eq {g : Hv} {r : Nat} : ∀ j, j ≤ r → bfC g r j = bfS g j
  | 0, _ => rfl
  | j + 1, h => by
    rw [bfC, bfS, bfC_eq j (by omega)]
    by_cases z : g 6 j ≤ 0
    · rw [if_neg (fun q => q.2 z), if_pos z, Int32.add_zero]
    · rw [if_pos ⟨by omega, z⟩, if_neg z]
theorem bfC_r {g : Hv} {r : Nat} : ∀ n, bfC g r (r + n) = bfS g r
  | 0 => bfC_eq r (Nat.le_refl r)
  | n + 1 => by
    rw [← Nat.add_assoc, bfC, if_neg (fun q => by have := q.1; omega), bfC_r n]
theorem bf_a {g : Hv} {j r : Nat} (h : r ≤ j) : bfC g r (j + 1) = bfC g r j := if_neg (fun q => by have := q.1; omega)
theorem bf_b {g : Hv} {j r : Nat} (h : j < r) (hz : g 6 j ≤ 0) : bfC g r (j + 1) = bfC g r j := if_neg (fun q => q.2 hz)
theorem bf_c {g : Hv} {j r : Nat} (h : j < r) (hz : ¬ g 6 j ≤ 0) : bfC g r (j + 1) = bfC g r j + 1 := if_pos ⟨h, hz⟩
theorem lp_share6 {H g : Hv} {M N r u : Nat} {a : Int32} (hI : HI M N g) (hr : r < M) (ha : a ≠ 0) {P : Option Value → Hv → Prop} (kx : GdH M_X6_share 1 119 [some (.ref 0), some (.int (nI r)), some (.int (nI u)), some (.int a), some (.int (ovS g (nI u) a M)), some (.int (bfC g r M)), some (.int (nI M))] [] (pu H 15 g) P) : ∀ (n j : Nat), j + n = M → GdH M_X6_share 1 60 [some (.ref 0), some (.int (nI r)), some (.int (nI u)), some (.int a), some (.int (ovS g (nI u) a j)), some (.int (bfC g r j)), some (.int (nI j))] [] (pu H 15 g) P := by
  intro n
  induction n with
  | zero =>
    intro j hj
    have hM5 := hI.hM5
    have hj' : j = M := by omega
    rw [hj']
    refine g_iload d_X6_share_60 rfl ?_
    refine g_aload_n d_X6_share_62 rfl ?_
    refine h_getR d_X6_share_63 fl_6_26 sp_L rfl ?_
    refine hh_getV (v := nI M) d_X6_share_66 fl_6_132 hall_15 (by decide) (hI.hM) ?_
    refine g_icmp_ge d_X6_share_69 (fun c69 => ?_) (fun c69 => absurd (nI_le (a := M) (b := M) (Nat.le_refl _) (by omega)) c69)
    exact kx
  | succ n ih =>
    intro j hj
    have hM5 := hI.hM5
    refine g_iload d_X6_share_60 rfl ?_
    refine g_aload_n d_X6_share_62 rfl ?_
    refine h_getR d_X6_share_63 fl_6_26 sp_L rfl ?_
    refine hh_getV (v := nI M) d_X6_share_66 fl_6_132 hall_15 (by decide) (hI.hM) ?_
    refine g_icmp_ge d_X6_share_69 (fun c69 => absurd c69 (nI_ge (a := j) (b := M) (by omega) (by omega))) (fun c69 => ?_)
    refine g_iload d_X6_share_72 rfl ?_
    refine g_iload_n d_X6_share_74 rfl ?_
    refine g_aload_n d_X6_share_75 rfl ?_
    refine h_getR d_X6_share_76 fl_6_26 sp_L rfl ?_
    refine h_getR d_X6_share_79 fl_6_208 (sp_hall hall_15) rfl ?_
    refine g_iload d_X6_share_82 rfl ?_
    refine hh_aldE (k := j) d_X6_share_84 (sp_h6 hall_15) (by decide) rfl (by omega) (by decide) ?_
    refine g_imul d_X6_share_85 ?_
    refine g_iload_n d_X6_share_86 rfl ?_
    refine g_idiv d_X6_share_87 (ha) ?_
    refine g_isub d_X6_share_88 ?_
    refine w_istore (L' := [_, _, _, _, _, _, _]) d_X6_share_89 rfl rfl rfl ?_
    refine g_iload d_X6_share_91 rfl ?_
    refine g_iload_n d_X6_share_93 rfl ?_
    refine g_icmp_ge d_X6_share_94 (fun c94 => ?_) (fun c94 => ?_)
    · refine w_iinc (L' := [_, _, _, _, _, _, _]) d_X6_share_113 ik_1 rfl rfl rfl rfl ?_
      refine g_goto d_X6_share_116 ?_
      have q := ih (j + 1) (by omega)
      rw [show ovS g (nI u) a (j + 1) = ovS g (nI u) a j - nI u * g 6 j / a from rfl] at q
      first | rw [bf_a (by rcases Nat.lt_or_ge j r with z | z; exact absurd c94 (nI_ge (a := j) (b := r) z (by omega)); exact z)] at q | rw [bf_b (by rcases Nat.lt_or_ge j r with z | z; exact z; exact absurd (nI_le (a := r) (b := j) z (by omega)) c94) c107] at q | rw [bf_c (by rcases Nat.lt_or_ge j r with z | z; exact z; exact absurd (nI_le (a := r) (b := j) z (by omega)) c94) c107] at q
      rw [nI_1]
      exact q
    · refine g_aload_n d_X6_share_97 rfl ?_
      refine h_getR d_X6_share_98 fl_6_26 sp_L rfl ?_
      refine h_getR d_X6_share_101 fl_6_208 (sp_hall hall_15) rfl ?_
      refine g_iload d_X6_share_104 rfl ?_
      refine hh_aldE (k := j) d_X6_share_106 (sp_h6 hall_15) (by decide) rfl (by omega) (by decide) ?_
      refine g_if_le d_X6_share_107 (fun c107 => ?_) (fun c107 => ?_)
      · refine w_iinc (L' := [_, _, _, _, _, _, _]) d_X6_share_113 ik_1 rfl rfl rfl rfl ?_
        refine g_goto d_X6_share_116 ?_
        have q := ih (j + 1) (by omega)
        rw [show ovS g (nI u) a (j + 1) = ovS g (nI u) a j - nI u * g 6 j / a from rfl] at q
        first | rw [bf_a (by rcases Nat.lt_or_ge j r with z | z; exact absurd c94 (nI_ge (a := j) (b := r) z (by omega)); exact z)] at q | rw [bf_b (by rcases Nat.lt_or_ge j r with z | z; exact z; exact absurd (nI_le (a := r) (b := j) z (by omega)) c94) c107] at q | rw [bf_c (by rcases Nat.lt_or_ge j r with z | z; exact z; exact absurd (nI_le (a := r) (b := j) z (by omega)) c94) c107] at q
        rw [nI_1]
        exact q
      · refine w_iinc (L' := [_, _, _, _, _, _, _]) d_X6_share_110 ik_1 rfl rfl rfl rfl ?_
        refine w_iinc (L' := [_, _, _, _, _, _, _]) d_X6_share_113 ik_1 rfl rfl rfl rfl ?_
        refine g_goto d_X6_share_116 ?_
        have q := ih (j + 1) (by omega)
        rw [show ovS g (nI u) a (j + 1) = ovS g (nI u) a j - nI u * g 6 j / a from rfl] at q
        first | rw [bf_a (by rcases Nat.lt_or_ge j r with z | z; exact absurd c94 (nI_ge (a := j) (b := r) z (by omega)); exact z)] at q | rw [bf_b (by rcases Nat.lt_or_ge j r with z | z; exact z; exact absurd (nI_le (a := r) (b := j) z (by omega)) c94) c107] at q | rw [bf_c (by rcases Nat.lt_or_ge j r with z | z; exact z; exact absurd (nI_le (a := r) (b := j) z (by omega)) c94) c107] at q
        rw [nI_1]
        exact q
theorem lp_share7a {h w g : Hv} {M N r u : Nat} {a : Int32} (hI : HI M N g) (hR : Rep0 M N g w 7 8) (hr : r < M) (ha : a ≠ 0) {P : Option Value → Hv → Prop} (kx : GdH M_X7_share 2 80 [some (.ref 360), some (.int (nI r)), some (.int (nI u)), some (.int a), some (.int (ovS g (nI u) a M)), some (.int (nI M)), none] [] (mu h w) P) : ∀ (n j : Nat), j + n = M → GdH M_X7_share 2 44 [some (.ref 360), some (.int (nI r)), some (.int (nI u)), some (.int a), some (.int (ovS g (nI u) a j)), some (.int (nI j)), none] [] (mu h w) P := by
  intro n
  induction n with
  | zero =>
    intro j hj
    have hM5 := hI.hM5
    have hj' : j = M := by omega
    rw [hj']
    refine g_iload d_X7_share_44 rfl ?_
    refine g_aload_n d_X7_share_46 rfl ?_
    refine h_getR d_X7_share_47 fl_7_28 sp_M rfl ?_
    refine g_iconst d_X7_share_50 ik_0 ?_
    refine mm_aldV (k := 0) (v := nI M) d_X7_share_51 (j := 7) sp_m_d rfl (by decide) rfl (by omega) (by decide) (hR.1.2.2.1.symm.trans hI.hM) ?_
    refine g_icmp_ge d_X7_share_52 (fun c52 => ?_) (fun c52 => absurd (nI_le (a := M) (b := M) (Nat.le_refl _) (by omega)) c52)
    exact kx
  | succ n ih =>
    intro j hj
    have hM5 := hI.hM5
    refine g_iload d_X7_share_44 rfl ?_
    refine g_aload_n d_X7_share_46 rfl ?_
    refine h_getR d_X7_share_47 fl_7_28 sp_M rfl ?_
    refine g_iconst d_X7_share_50 ik_0 ?_
    refine mm_aldV (k := 0) (v := nI M) d_X7_share_51 (j := 7) sp_m_d rfl (by decide) rfl (by omega) (by decide) (hR.1.2.2.1.symm.trans hI.hM) ?_
    refine g_icmp_ge d_X7_share_52 (fun c52 => absurd c52 (nI_ge (a := j) (b := M) (by omega) (by omega))) (fun c52 => ?_)
    refine g_iload d_X7_share_55 rfl ?_
    refine g_iload_n d_X7_share_57 rfl ?_
    refine g_aload_n d_X7_share_58 rfl ?_
    refine h_getR d_X7_share_59 fl_7_31 sp_M rfl ?_
    refine g_bipush d_X7_share_62 bk_13 ?_
    refine g_iload d_X7_share_64 rfl ?_
    refine g_iadd d_X7_share_66 ?_
    refine mm_aldV (k := (13 + j)) (v := g 6 j) d_X7_share_67 (j := 8) sp_m_s rfl (by decide) (nAdd rfl rfl) (by omega) (by decide) ((hR.2.1 j (by omega)).2.2.2.2.2.symm) ?_
    refine g_imul d_X7_share_68 ?_
    refine g_iload_n d_X7_share_69 rfl ?_
    refine g_idiv d_X7_share_70 (ha) ?_
    refine g_isub d_X7_share_71 ?_
    refine w_istore (L' := [_, _, _, _, _, _, _]) d_X7_share_72 rfl rfl rfl ?_
    refine w_iinc (L' := [_, _, _, _, _, _, _]) d_X7_share_74 ik_1 rfl rfl rfl rfl ?_
    refine g_goto d_X7_share_77 ?_
    have q := ih (j + 1) (by omega)
    rw [show ovS g (nI u) a (j + 1) = ovS g (nI u) a j - nI u * g 6 j / a from rfl] at q
    rw [nI_1]
    exact q
theorem lp_share7b {h w g : Hv} {M N r u : Nat} {a : Int32} (hI : HI M N g) (hR : Rep0 M N g w 7 8) (hr : r < M) {v4 : Int32} {P : Option Value → Hv → Prop} (kx : GdH M_X7_share 2 121 [some (.ref 360), some (.int (nI r)), some (.int (nI u)), some (.int a), some (.int v4), some (.int (bfS g r)), some (.int (nI r))] [] (mu h w) P) : ∀ (n j : Nat), j + n = r → GdH M_X7_share 2 86 [some (.ref 360), some (.int (nI r)), some (.int (nI u)), some (.int a), some (.int v4), some (.int (bfS g j)), some (.int (nI j))] [] (mu h w) P := by
  intro n
  induction n with
  | zero =>
    intro j hj
    have hM5 := hI.hM5
    have hj' : j = r := by omega
    rw [hj']
    refine g_iload d_X7_share_86 rfl ?_
    refine g_iload_n d_X7_share_88 rfl ?_
    refine g_icmp_ge d_X7_share_89 (fun c89 => ?_) (fun c89 => absurd (nI_le (a := r) (b := r) (Nat.le_refl _) (by omega)) c89)
    exact kx
  | succ n ih =>
    intro j hj
    have hM5 := hI.hM5
    refine g_iload d_X7_share_86 rfl ?_
    refine g_iload_n d_X7_share_88 rfl ?_
    refine g_icmp_ge d_X7_share_89 (fun c89 => absurd c89 (nI_ge (a := j) (b := r) (by omega) (by omega))) (fun c89 => ?_)
    refine g_iload d_X7_share_92 rfl ?_
    refine g_aload_n d_X7_share_94 rfl ?_
    refine h_getR d_X7_share_95 fl_7_31 sp_M rfl ?_
    refine g_bipush d_X7_share_98 bk_13 ?_
    refine g_iload d_X7_share_100 rfl ?_
    refine g_iadd d_X7_share_102 ?_
    refine mm_aldV (k := (13 + j)) (v := g 6 j) d_X7_share_103 (j := 8) sp_m_s rfl (by decide) (nAdd rfl rfl) (by omega) (by decide) ((hR.2.1 j (by omega)).2.2.2.2.2.symm) ?_
    refine g_if_le d_X7_share_104 (fun c104 => ?_) (fun c104 => ?_)
    · refine g_iconst d_X7_share_111 ik_0 ?_
      refine g_iadd d_X7_share_112 ?_
      refine w_istore (L' := [_, _, _, _, _, _, _]) d_X7_share_113 rfl rfl rfl ?_
      refine w_iinc (L' := [_, _, _, _, _, _, _]) d_X7_share_115 ik_1 rfl rfl rfl rfl ?_
      refine g_goto d_X7_share_118 ?_
      have q := ih (j + 1) (by omega)
      first | rw [bfS, if_pos c104] at q | rw [bfS, if_neg c104] at q
      rw [nI_1]
      exact q
    · refine g_iconst d_X7_share_107 ik_1 ?_
      refine g_goto d_X7_share_108 ?_
      refine g_iadd d_X7_share_112 ?_
      refine w_istore (L' := [_, _, _, _, _, _, _]) d_X7_share_113 rfl rfl rfl ?_
      refine w_iinc (L' := [_, _, _, _, _, _, _]) d_X7_share_115 ik_1 rfl rfl rfl rfl ?_
      refine g_goto d_X7_share_118 ?_
      have q := ih (j + 1) (by omega)
      first | rw [bfS, if_pos c104] at q | rw [bfS, if_neg c104] at q
      rw [nI_1]
      exact q
theorem op_share {h w : Hv} (hR : RelP h w) {x y : Int32} : OPI M_X6_share M_X7_share 1 2 [.int x, .int y] (mu h w) := by
  obtain ⟨M, N, hM5, hN6, gM, wM, gN, wN, hZ⟩ := hR.mn
  have eM : (nI M).toInt = M := nI_toInt (by omega)
  have eN : (nI N).toInt = N := nI_toInt (by omega)
  have eM1 := nI_predI (t := M) (by omega)
  have eN1 := nI_predI (t := N) (by omega)
  rw [mu_15]
  refine MtH.of [some (.ref 0), some (.int x), some (.int y), none, none, none, none] pl_X6 rfl rfl ?_
  refine g_aload_n d_X6_share_0 rfl ?_
  refine h_getR d_X6_share_1 fl_6_26 sp_L rfl ?_
  refine g_iload_n d_X6_share_4 rfl ?_
  refine h_V1i d_X6_share_5 cl_6_170 (m_hasMachine hall_15) (sp_hall hall_15) (by decide) rfl (Nat.le_of_ble_eq_true rfl) (by decide) ?_
  refine g_if_eq d_X6_share_8 (fun c8 => ?_) (fun c8 => ?_)
  · refine g_ldc d_X6_share_22 kc_X6_66 ?_
    refine h_iret d_X6_share_24 rfl ?_
    refine ⟨_, rfl, ?_⟩
    rw [← mu_15]
    refine MtH.of [some (.ref 360), some (.int x), some (.int y), none, none, none, none] pl_X7 rfl rfl ?_
    refine g_aload_n d_X7_share_0 rfl ?_
    refine g_iconst d_X7_share_1 ik_0 ?_
    refine mm_putI d_X7_share_2 fl_7_62 sp_M rfl ?_
    refine g_aload_n d_X7_share_5 rfl ?_
    refine g_iload_n d_X7_share_6 rfl ?_
    refine h_V1i d_X7_share_7 cl_7_201 (m7_isMachine ((hs_j (by decide)).trans wM)) sp_M (by decide) rfl (Nat.le_of_ble_eq_true rfl) (by decide) ?_
    refine g_if_eq d_X7_share_10 (fun c10 => ?_) (fun c10 => ?_)
    · refine g_ldc d_X7_share_24 kc_X7_78 ?_
      refine h_iret d_X7_share_26 rfl ?_
      exact ⟨rfl, _, _, rfl, hR.fr fr_thrown⟩
    · refine g_iload_n d_X7_share_13 rfl ?_
      refine g_iconst d_X7_share_14 ik_0 ?_
      refine g_sipush d_X7_share_15 sk_999 ?_
      refine h_S3i d_X7_share_18 cl_7_70 m7_in (Nat.le_of_ble_eq_true rfl) (by decide) ?_
      refine g_if_ne d_X7_share_21 (fun c21 => ?_) (fun c21 => ?_)
      · exfalso
        simp only [b2i_eq0, b2i_ne0, Int32.lt_iff_toInt_lt, Int32.le_iff_toInt_le, t_0, t_1, t_2, t_3, t_4, t_5, t_6, t_7, t_8, t_9, t_10, t_11, t_12, t_20, t_24, t_40, t_50, t_60, t_99, t_110, t_255, t_999, t_999999, t_m1, gM, gN, eM, eN, eM1, eN1] at *
        omega
      · refine g_ldc d_X7_share_24 kc_X7_78 ?_
        refine h_iret d_X7_share_26 rfl ?_
        exact ⟨rfl, _, _, rfl, hR.fr fr_thrown⟩
  · refine g_iload_n d_X6_share_11 rfl ?_
    refine g_if_lt d_X6_share_12 (fun c12 => ?_) (fun c12 => ?_)
    · refine g_ldc d_X6_share_22 kc_X6_66 ?_
      refine h_iret d_X6_share_24 rfl ?_
      refine ⟨_, rfl, ?_⟩
      rw [← mu_15]
      refine MtH.of [some (.ref 360), some (.int x), some (.int y), none, none, none, none] pl_X7 rfl rfl ?_
      refine g_aload_n d_X7_share_0 rfl ?_
      refine g_iconst d_X7_share_1 ik_0 ?_
      refine mm_putI d_X7_share_2 fl_7_62 sp_M rfl ?_
      refine g_aload_n d_X7_share_5 rfl ?_
      refine g_iload_n d_X7_share_6 rfl ?_
      refine h_V1i d_X7_share_7 cl_7_201 (m7_isMachine ((hs_j (by decide)).trans wM)) sp_M (by decide) rfl (Nat.le_of_ble_eq_true rfl) (by decide) ?_
      refine g_if_eq d_X7_share_10 (fun c10 => ?_) (fun c10 => ?_)
      · refine g_ldc d_X7_share_24 kc_X7_78 ?_
        refine h_iret d_X7_share_26 rfl ?_
        exact ⟨rfl, _, _, rfl, hR.fr fr_thrown⟩
      · refine g_iload_n d_X7_share_13 rfl ?_
        refine g_iconst d_X7_share_14 ik_0 ?_
        refine g_sipush d_X7_share_15 sk_999 ?_
        refine h_S3i d_X7_share_18 cl_7_70 m7_in (Nat.le_of_ble_eq_true rfl) (by decide) ?_
        refine g_if_ne d_X7_share_21 (fun c21 => ?_) (fun c21 => ?_)
        · exfalso
          simp only [b2i_eq0, b2i_ne0, Int32.lt_iff_toInt_lt, Int32.le_iff_toInt_le, t_0, t_1, t_2, t_3, t_4, t_5, t_6, t_7, t_8, t_9, t_10, t_11, t_12, t_20, t_24, t_40, t_50, t_60, t_99, t_110, t_255, t_999, t_999999, t_m1, gM, gN, eM, eN, eM1, eN1] at *
          omega
        · refine g_ldc d_X7_share_24 kc_X7_78 ?_
          refine h_iret d_X7_share_26 rfl ?_
          exact ⟨rfl, _, _, rfl, hR.fr fr_thrown⟩
    · refine g_iload_n d_X6_share_15 rfl ?_
      refine g_sipush d_X6_share_16 sk_999 ?_
      refine g_icmp_le d_X6_share_19 (fun c19 => ?_) (fun c19 => ?_)
      · obtain ⟨r, hr, rfl⟩ := rngI (x := x) (B := M) (by simp only [b2i_eq0, b2i_ne0, Int32.lt_iff_toInt_lt, Int32.le_iff_toInt_le, t_0, t_1, t_2, t_3, t_4, t_5, t_6, t_7, t_8, t_9, t_10, t_11, t_12, t_20, t_24, t_40, t_50, t_60, t_99, t_110, t_255, t_999, t_999999, t_m1, gM, gN, eM, eN, eM1, eN1] at *; omega) (by simp only [b2i_eq0, b2i_ne0, Int32.lt_iff_toInt_lt, Int32.le_iff_toInt_le, t_0, t_1, t_2, t_3, t_4, t_5, t_6, t_7, t_8, t_9, t_10, t_11, t_12, t_20, t_24, t_40, t_50, t_60, t_99, t_110, t_255, t_999, t_999999, t_m1, gM, gN, eM, eN, eM1, eN1] at *; omega)
        have er : (nI r).toInt = r := nI_toInt (by omega)
        obtain ⟨i0, c0, hi0, hi1, hS, hA, hO⟩ := (hZ.resolve_left (fun z => by have := z.1; have := z.2.1; omega)).2.2
        have hI := hS.1
        obtain ⟨n, hn, rfl⟩ := rngI (x := y) (B := 1000) (by simp only [b2i_eq0, b2i_ne0, Int32.lt_iff_toInt_lt, Int32.le_iff_toInt_le, t_0, t_1, t_2, t_3, t_4, t_5, t_6, t_7, t_8, t_9, t_10, t_11, t_12, t_20, t_24, t_40, t_50, t_60, t_99, t_110, t_255, t_999, t_999999, t_m1, er, gM, gN, eM, eN, eM1, eN1] at *; omega) (by simp only [b2i_eq0, b2i_ne0, Int32.lt_iff_toInt_lt, Int32.le_iff_toInt_le, t_0, t_1, t_2, t_3, t_4, t_5, t_6, t_7, t_8, t_9, t_10, t_11, t_12, t_20, t_24, t_40, t_50, t_60, t_99, t_110, t_255, t_999, t_999999, t_m1, er, gM, gN, eM, eN, eM1, eN1] at *; omega)
        have en : (nI n).toInt = n := nI_toInt (by omega)
        obtain ⟨D, hD, eD⟩ := doneS_n hI M (Nat.le_refl M)
        obtain ⟨qk, qb, qc, qd, -, -, -, -, -, -, -, -, hqd, e6⟩ := hI.mach r hr
        refine g_aload_n d_X6_share_25 rfl ?_
        refine h_getR d_X6_share_26 fl_6_26 sp_L rfl ?_
        refine h_V0i d_X6_share_29 cl_6_283 (m_doneOfAll hall_15 gM hM5) (sp_hall hall_15) (by decide) rfl (Nat.le_of_ble_eq_true rfl) (by decide) ?_
        refine w_istore_n (L' := [_, _, _, _, _, _, _]) d_X6_share_32 rfl rfl rfl ?_
        refine g_iload_n d_X6_share_33 rfl ?_
        refine g_if_le d_X6_share_34 (fun c34 => ?_) (fun c34 => ?_)
        · refine g_iconst d_X6_share_49 ik_0 ?_
          refine h_iret d_X6_share_50 rfl ?_
          refine ⟨_, rfl, ?_⟩
          rw [← mu_15]
          refine MtH.of [some (.ref 360), some (.int (nI r)), some (.int (nI n)), none, none, none, none] pl_X7 rfl rfl ?_
          refine g_aload_n d_X7_share_0 rfl ?_
          refine g_iconst d_X7_share_1 ik_0 ?_
          refine mm_putI d_X7_share_2 fl_7_62 sp_M rfl ?_
          refine g_aload_n d_X7_share_5 rfl ?_
          refine g_iload_n d_X7_share_6 rfl ?_
          refine h_V1i d_X7_share_7 cl_7_201 (m7_isMachine ((hs_j (by decide)).trans wM)) sp_M (by decide) rfl (Nat.le_of_ble_eq_true rfl) (by decide) ?_
          refine g_if_eq d_X7_share_10 (fun c10 => ?_) (fun c10 => ?_)
          · exfalso
            simp only [b2i_eq0, b2i_ne0, Int32.lt_iff_toInt_lt, Int32.le_iff_toInt_le, t_0, t_1, t_2, t_3, t_4, t_5, t_6, t_7, t_8, t_9, t_10, t_11, t_12, t_20, t_24, t_40, t_50, t_60, t_99, t_110, t_255, t_999, t_999999, t_m1, er, en, gM, gN, eM, eN, eM1, eN1] at *
            omega
          · refine g_iload_n d_X7_share_13 rfl ?_
            refine g_iconst d_X7_share_14 ik_0 ?_
            refine g_sipush d_X7_share_15 sk_999 ?_
            refine h_S3i d_X7_share_18 cl_7_70 m7_in (Nat.le_of_ble_eq_true rfl) (by decide) ?_
            refine g_if_ne d_X7_share_21 (fun c21 => ?_) (fun c21 => ?_)
            · refine g_aload_n d_X7_share_27 rfl ?_
              refine h_V0i d_X7_share_28 cl_7_234 (m7_doneAll (hS.2.1.th hM5 hN6) hI (fun k h1 h2 => ((hs_j (by decide)).trans (hS.2.2.2.1 k h1 h2)))) sp_M (by decide) rfl (Nat.le_of_ble_eq_true rfl) (by decide) ?_
              refine w_istore_n (L' := [_, _, _, _, _, _, _]) d_X7_share_31 rfl rfl rfl ?_
              refine g_iload_n d_X7_share_32 rfl ?_
              refine g_if_ne d_X7_share_33 (fun c33 => ?_) (fun c33 => ?_)
              · refine absurd ?_ c33
                rw [eD] at c34 ⊢
                rcases Nat.eq_zero_or_pos D with z | z
                · rw [z]; rfl
                · exact absurd c34 (nI_ge (a := 0) (b := D) z (by omega))
              · refine g_iconst d_X7_share_36 ik_0 ?_
                refine h_iret d_X7_share_37 rfl ?_
                exact ⟨rfl, _, _, rfl, hR.fr fr_thrown⟩
            · exfalso
              simp only [b2i_eq0, b2i_ne0, Int32.lt_iff_toInt_lt, Int32.le_iff_toInt_le, t_0, t_1, t_2, t_3, t_4, t_5, t_6, t_7, t_8, t_9, t_10, t_11, t_12, t_20, t_24, t_40, t_50, t_60, t_99, t_110, t_255, t_999, t_999999, t_m1, er, en, gM, gN, eM, eN, eM1, eN1] at *
              omega
        · refine g_aload_n d_X6_share_37 rfl ?_
          refine h_getR d_X6_share_38 fl_6_26 sp_L rfl ?_
          refine h_getR d_X6_share_41 fl_6_208 (sp_hall hall_15) rfl ?_
          refine g_iload_n d_X6_share_44 rfl ?_
          refine hh_aldE (k := r) d_X6_share_45 (sp_h6 hall_15) (by decide) rfl (by omega) (by decide) ?_
          refine g_if_ne d_X6_share_46 (fun c46 => ?_) (fun c46 => ?_)
          · refine g_iload_n d_X6_share_51 rfl ?_
            refine w_istore (L' := [_, _, _, _, _, _, _]) d_X6_share_52 rfl rfl rfl ?_
            refine g_iconst d_X6_share_54 ik_0 ?_
            refine w_istore (L' := [_, _, _, _, _, _, _]) d_X6_share_55 rfl rfl rfl ?_
            refine g_iconst d_X6_share_57 ik_0 ?_
            refine w_istore (L' := [_, _, _, _, _, _, _]) d_X6_share_58 rfl rfl rfl ?_
            have ha : doneS (hv h 15) M ≠ 0 := fun z => c34 (by rw [z]; decide)
            refine lp_share6 hI hr ha ?_ M 0 (by omega)
            refine g_iload_n d_X6_share_119 rfl ?_
            refine g_aload_n d_X6_share_120 rfl ?_
            refine h_getR d_X6_share_121 fl_6_26 sp_L rfl ?_
            refine h_getR d_X6_share_124 fl_6_208 (sp_hall hall_15) rfl ?_
            refine g_iload_n d_X6_share_127 rfl ?_
            refine hh_aldE (k := r) d_X6_share_128 (sp_h6 hall_15) (by decide) rfl (by omega) (by decide) ?_
            refine g_imul d_X6_share_129 ?_
            refine g_iload_n d_X6_share_130 rfl ?_
            refine g_idiv d_X6_share_131 (ha) ?_
            refine g_iload d_X6_share_132 rfl ?_
            refine g_iload d_X6_share_134 rfl ?_
            refine g_icmp_ge d_X6_share_136 (fun c136 => ?_) (fun c136 => ?_)
            · refine g_iconst d_X6_share_143 ik_0 ?_
              refine g_iadd d_X6_share_144 ?_
              refine h_iret d_X6_share_145 rfl ?_
              refine ⟨_, rfl, ?_⟩
              rw [← mu_15]
              have k46 := c46
              have k136 := c136
              rw [show bfC (hv h 15) r M = bfS (hv h 15) r by rw [show M = r + (M - r) by omega]; exact bfC_r _] at k136
              refine MtH.of [some (.ref 360), some (.int (nI r)), some (.int (nI n)), none, none, none, none] pl_X7 rfl rfl ?_
              refine g_aload_n d_X7_share_0 rfl ?_
              refine g_iconst d_X7_share_1 ik_0 ?_
              refine mm_putI d_X7_share_2 fl_7_62 sp_M rfl ?_
              refine g_aload_n d_X7_share_5 rfl ?_
              refine g_iload_n d_X7_share_6 rfl ?_
              refine h_V1i d_X7_share_7 cl_7_201 (m7_isMachine ((hs_j (by decide)).trans wM)) sp_M (by decide) rfl (Nat.le_of_ble_eq_true rfl) (by decide) ?_
              refine g_if_eq d_X7_share_10 (fun c10 => ?_) (fun c10 => ?_)
              · exfalso
                simp only [b2i_eq0, b2i_ne0, Int32.lt_iff_toInt_lt, Int32.le_iff_toInt_le, t_0, t_1, t_2, t_3, t_4, t_5, t_6, t_7, t_8, t_9, t_10, t_11, t_12, t_20, t_24, t_40, t_50, t_60, t_99, t_110, t_255, t_999, t_999999, t_m1, er, en, gM, gN, eM, eN, eM1, eN1] at *
                omega
              · refine g_iload_n d_X7_share_13 rfl ?_
                refine g_iconst d_X7_share_14 ik_0 ?_
                refine g_sipush d_X7_share_15 sk_999 ?_
                refine h_S3i d_X7_share_18 cl_7_70 m7_in (Nat.le_of_ble_eq_true rfl) (by decide) ?_
                refine g_if_ne d_X7_share_21 (fun c21 => ?_) (fun c21 => ?_)
                · refine g_aload_n d_X7_share_27 rfl ?_
                  refine h_V0i d_X7_share_28 cl_7_234 (m7_doneAll (hS.2.1.th hM5 hN6) hI (fun k h1 h2 => ((hs_j (by decide)).trans (hS.2.2.2.1 k h1 h2)))) sp_M (by decide) rfl (Nat.le_of_ble_eq_true rfl) (by decide) ?_
                  refine w_istore_n (L' := [_, _, _, _, _, _, _]) d_X7_share_31 rfl rfl rfl ?_
                  refine g_iload_n d_X7_share_32 rfl ?_
                  refine g_if_ne d_X7_share_33 (fun c33 => ?_) (fun c33 => absurd c33 ha)
                  refine g_iload_n d_X7_share_38 rfl ?_
                  refine w_istore (L' := [_, _, _, _, _, _, _]) d_X7_share_39 rfl rfl rfl ?_
                  refine g_iconst d_X7_share_41 ik_0 ?_
                  refine w_istore (L' := [_, _, _, _, _, _, _]) d_X7_share_42 rfl rfl rfl ?_
                  refine lp_share7a hI (hS.2.1.th hM5 hN6) hr ha ?_ M 0 (by omega)
                  refine g_iconst d_X7_share_80 ik_0 ?_
                  refine w_istore (L' := [_, _, _, _, _, _, _]) d_X7_share_81 rfl rfl rfl ?_
                  refine g_iconst d_X7_share_83 ik_0 ?_
                  refine w_istore (L' := [_, _, _, _, _, _, _]) d_X7_share_84 rfl rfl rfl ?_
                  refine lp_share7b hI (hS.2.1.th hM5 hN6) hr ?_ r 0 (by omega)
                  refine g_iload_n d_X7_share_121 rfl ?_
                  refine g_aload_n d_X7_share_122 rfl ?_
                  refine h_getR d_X7_share_123 fl_7_31 sp_M rfl ?_
                  refine g_bipush d_X7_share_126 bk_13 ?_
                  refine g_iload_n d_X7_share_128 rfl ?_
                  refine g_iadd d_X7_share_129 ?_
                  refine mm_aldV (k := (13 + r)) (v := hv h 15 6 r) d_X7_share_130 (j := 8) sp_m_s rfl (by decide) (nAdd rfl rfl) (by omega) (by decide) ((hs_j (by decide)).trans (hS.2.1.2.1 r hr).2.2.2.2.2.symm) ?_
                  refine g_imul d_X7_share_131 ?_
                  refine g_iload_n d_X7_share_132 rfl ?_
                  refine g_idiv d_X7_share_133 (ha) ?_
                  refine g_aload_n d_X7_share_134 rfl ?_
                  refine h_getR d_X7_share_135 fl_7_31 sp_M rfl ?_
                  refine g_bipush d_X7_share_138 bk_13 ?_
                  refine g_iload_n d_X7_share_140 rfl ?_
                  refine g_iadd d_X7_share_141 ?_
                  refine mm_aldV (k := (13 + r)) (v := hv h 15 6 r) d_X7_share_142 (j := 8) sp_m_s rfl (by decide) (nAdd rfl rfl) (by omega) (by decide) ((hs_j (by decide)).trans (hS.2.1.2.1 r hr).2.2.2.2.2.symm) ?_
                  refine g_if_le d_X7_share_143 (fun c143 => absurd c143 (fun z => k46 (by rw [e6] at z ⊢; rcases Nat.eq_zero_or_pos qd with y | y; rw [y]; rfl; exact absurd z (nI_ge (a := 0) (b := qd) y (by omega))))) (fun c143 => ?_)
                  refine g_iload d_X7_share_146 rfl ?_
                  refine g_iload d_X7_share_148 rfl ?_
                  refine g_icmp_ge d_X7_share_150 (fun c150 => ?_) (fun c150 => ?_)
                  · refine g_iconst d_X7_share_157 ik_0 ?_
                    refine g_iadd d_X7_share_158 ?_
                    refine h_iret d_X7_share_159 rfl ?_
                    exact ⟨by first | rfl | exact absurd c150 k136 | exact absurd k136 c150, _, _, rfl, hR.fr fr_thrown⟩
                  · refine g_iconst d_X7_share_153 ik_1 ?_
                    refine g_goto d_X7_share_154 ?_
                    refine g_iadd d_X7_share_158 ?_
                    refine h_iret d_X7_share_159 rfl ?_
                    exact ⟨by first | rfl | exact absurd c150 k136 | exact absurd k136 c150, _, _, rfl, hR.fr fr_thrown⟩
                · exfalso
                  simp only [b2i_eq0, b2i_ne0, Int32.lt_iff_toInt_lt, Int32.le_iff_toInt_le, t_0, t_1, t_2, t_3, t_4, t_5, t_6, t_7, t_8, t_9, t_10, t_11, t_12, t_20, t_24, t_40, t_50, t_60, t_99, t_110, t_255, t_999, t_999999, t_m1, er, en, gM, gN, eM, eN, eM1, eN1] at *
                  omega
            · refine g_iconst d_X6_share_139 ik_1 ?_
              refine g_goto d_X6_share_140 ?_
              refine g_iadd d_X6_share_144 ?_
              refine h_iret d_X6_share_145 rfl ?_
              refine ⟨_, rfl, ?_⟩
              rw [← mu_15]
              have k46 := c46
              have k136 := c136
              rw [show bfC (hv h 15) r M = bfS (hv h 15) r by rw [show M = r + (M - r) by omega]; exact bfC_r _] at k136
              refine MtH.of [some (.ref 360), some (.int (nI r)), some (.int (nI n)), none, none, none, none] pl_X7 rfl rfl ?_
              refine g_aload_n d_X7_share_0 rfl ?_
              refine g_iconst d_X7_share_1 ik_0 ?_
              refine mm_putI d_X7_share_2 fl_7_62 sp_M rfl ?_
              refine g_aload_n d_X7_share_5 rfl ?_
              refine g_iload_n d_X7_share_6 rfl ?_
              refine h_V1i d_X7_share_7 cl_7_201 (m7_isMachine ((hs_j (by decide)).trans wM)) sp_M (by decide) rfl (Nat.le_of_ble_eq_true rfl) (by decide) ?_
              refine g_if_eq d_X7_share_10 (fun c10 => ?_) (fun c10 => ?_)
              · exfalso
                simp only [b2i_eq0, b2i_ne0, Int32.lt_iff_toInt_lt, Int32.le_iff_toInt_le, t_0, t_1, t_2, t_3, t_4, t_5, t_6, t_7, t_8, t_9, t_10, t_11, t_12, t_20, t_24, t_40, t_50, t_60, t_99, t_110, t_255, t_999, t_999999, t_m1, er, en, gM, gN, eM, eN, eM1, eN1] at *
                omega
              · refine g_iload_n d_X7_share_13 rfl ?_
                refine g_iconst d_X7_share_14 ik_0 ?_
                refine g_sipush d_X7_share_15 sk_999 ?_
                refine h_S3i d_X7_share_18 cl_7_70 m7_in (Nat.le_of_ble_eq_true rfl) (by decide) ?_
                refine g_if_ne d_X7_share_21 (fun c21 => ?_) (fun c21 => ?_)
                · refine g_aload_n d_X7_share_27 rfl ?_
                  refine h_V0i d_X7_share_28 cl_7_234 (m7_doneAll (hS.2.1.th hM5 hN6) hI (fun k h1 h2 => ((hs_j (by decide)).trans (hS.2.2.2.1 k h1 h2)))) sp_M (by decide) rfl (Nat.le_of_ble_eq_true rfl) (by decide) ?_
                  refine w_istore_n (L' := [_, _, _, _, _, _, _]) d_X7_share_31 rfl rfl rfl ?_
                  refine g_iload_n d_X7_share_32 rfl ?_
                  refine g_if_ne d_X7_share_33 (fun c33 => ?_) (fun c33 => absurd c33 ha)
                  refine g_iload_n d_X7_share_38 rfl ?_
                  refine w_istore (L' := [_, _, _, _, _, _, _]) d_X7_share_39 rfl rfl rfl ?_
                  refine g_iconst d_X7_share_41 ik_0 ?_
                  refine w_istore (L' := [_, _, _, _, _, _, _]) d_X7_share_42 rfl rfl rfl ?_
                  refine lp_share7a hI (hS.2.1.th hM5 hN6) hr ha ?_ M 0 (by omega)
                  refine g_iconst d_X7_share_80 ik_0 ?_
                  refine w_istore (L' := [_, _, _, _, _, _, _]) d_X7_share_81 rfl rfl rfl ?_
                  refine g_iconst d_X7_share_83 ik_0 ?_
                  refine w_istore (L' := [_, _, _, _, _, _, _]) d_X7_share_84 rfl rfl rfl ?_
                  refine lp_share7b hI (hS.2.1.th hM5 hN6) hr ?_ r 0 (by omega)
                  refine g_iload_n d_X7_share_121 rfl ?_
                  refine g_aload_n d_X7_share_122 rfl ?_
                  refine h_getR d_X7_share_123 fl_7_31 sp_M rfl ?_
                  refine g_bipush d_X7_share_126 bk_13 ?_
                  refine g_iload_n d_X7_share_128 rfl ?_
                  refine g_iadd d_X7_share_129 ?_
                  refine mm_aldV (k := (13 + r)) (v := hv h 15 6 r) d_X7_share_130 (j := 8) sp_m_s rfl (by decide) (nAdd rfl rfl) (by omega) (by decide) ((hs_j (by decide)).trans (hS.2.1.2.1 r hr).2.2.2.2.2.symm) ?_
                  refine g_imul d_X7_share_131 ?_
                  refine g_iload_n d_X7_share_132 rfl ?_
                  refine g_idiv d_X7_share_133 (ha) ?_
                  refine g_aload_n d_X7_share_134 rfl ?_
                  refine h_getR d_X7_share_135 fl_7_31 sp_M rfl ?_
                  refine g_bipush d_X7_share_138 bk_13 ?_
                  refine g_iload_n d_X7_share_140 rfl ?_
                  refine g_iadd d_X7_share_141 ?_
                  refine mm_aldV (k := (13 + r)) (v := hv h 15 6 r) d_X7_share_142 (j := 8) sp_m_s rfl (by decide) (nAdd rfl rfl) (by omega) (by decide) ((hs_j (by decide)).trans (hS.2.1.2.1 r hr).2.2.2.2.2.symm) ?_
                  refine g_if_le d_X7_share_143 (fun c143 => absurd c143 (fun z => k46 (by rw [e6] at z ⊢; rcases Nat.eq_zero_or_pos qd with y | y; rw [y]; rfl; exact absurd z (nI_ge (a := 0) (b := qd) y (by omega))))) (fun c143 => ?_)
                  refine g_iload d_X7_share_146 rfl ?_
                  refine g_iload d_X7_share_148 rfl ?_
                  refine g_icmp_ge d_X7_share_150 (fun c150 => ?_) (fun c150 => ?_)
                  · refine g_iconst d_X7_share_157 ik_0 ?_
                    refine g_iadd d_X7_share_158 ?_
                    refine h_iret d_X7_share_159 rfl ?_
                    exact ⟨by first | rfl | exact absurd c150 k136 | exact absurd k136 c150, _, _, rfl, hR.fr fr_thrown⟩
                  · refine g_iconst d_X7_share_153 ik_1 ?_
                    refine g_goto d_X7_share_154 ?_
                    refine g_iadd d_X7_share_158 ?_
                    refine h_iret d_X7_share_159 rfl ?_
                    exact ⟨by first | rfl | exact absurd c150 k136 | exact absurd k136 c150, _, _, rfl, hR.fr fr_thrown⟩
                · exfalso
                  simp only [b2i_eq0, b2i_ne0, Int32.lt_iff_toInt_lt, Int32.le_iff_toInt_le, t_0, t_1, t_2, t_3, t_4, t_5, t_6, t_7, t_8, t_9, t_10, t_11, t_12, t_20, t_24, t_40, t_50, t_60, t_99, t_110, t_255, t_999, t_999999, t_m1, er, en, gM, gN, eM, eN, eM1, eN1] at *
                  omega
          · refine g_iconst d_X6_share_49 ik_0 ?_
            refine h_iret d_X6_share_50 rfl ?_
            refine ⟨_, rfl, ?_⟩
            rw [← mu_15]
            refine MtH.of [some (.ref 360), some (.int (nI r)), some (.int (nI n)), none, none, none, none] pl_X7 rfl rfl ?_
            refine g_aload_n d_X7_share_0 rfl ?_
            refine g_iconst d_X7_share_1 ik_0 ?_
            refine mm_putI d_X7_share_2 fl_7_62 sp_M rfl ?_
            refine g_aload_n d_X7_share_5 rfl ?_
            refine g_iload_n d_X7_share_6 rfl ?_
            refine h_V1i d_X7_share_7 cl_7_201 (m7_isMachine ((hs_j (by decide)).trans wM)) sp_M (by decide) rfl (Nat.le_of_ble_eq_true rfl) (by decide) ?_
            refine g_if_eq d_X7_share_10 (fun c10 => ?_) (fun c10 => ?_)
            · exfalso
              simp only [b2i_eq0, b2i_ne0, Int32.lt_iff_toInt_lt, Int32.le_iff_toInt_le, t_0, t_1, t_2, t_3, t_4, t_5, t_6, t_7, t_8, t_9, t_10, t_11, t_12, t_20, t_24, t_40, t_50, t_60, t_99, t_110, t_255, t_999, t_999999, t_m1, er, en, gM, gN, eM, eN, eM1, eN1] at *
              omega
            · refine g_iload_n d_X7_share_13 rfl ?_
              refine g_iconst d_X7_share_14 ik_0 ?_
              refine g_sipush d_X7_share_15 sk_999 ?_
              refine h_S3i d_X7_share_18 cl_7_70 m7_in (Nat.le_of_ble_eq_true rfl) (by decide) ?_
              refine g_if_ne d_X7_share_21 (fun c21 => ?_) (fun c21 => ?_)
              · refine g_aload_n d_X7_share_27 rfl ?_
                refine h_V0i d_X7_share_28 cl_7_234 (m7_doneAll (hS.2.1.th hM5 hN6) hI (fun k h1 h2 => ((hs_j (by decide)).trans (hS.2.2.2.1 k h1 h2)))) sp_M (by decide) rfl (Nat.le_of_ble_eq_true rfl) (by decide) ?_
                refine w_istore_n (L' := [_, _, _, _, _, _, _]) d_X7_share_31 rfl rfl rfl ?_
                refine g_iload_n d_X7_share_32 rfl ?_
                refine g_if_ne d_X7_share_33 (fun c33 => ?_) (fun c33 => ?_)
                · refine g_iload_n d_X7_share_38 rfl ?_
                  refine w_istore (L' := [_, _, _, _, _, _, _]) d_X7_share_39 rfl rfl rfl ?_
                  refine g_iconst d_X7_share_41 ik_0 ?_
                  refine w_istore (L' := [_, _, _, _, _, _, _]) d_X7_share_42 rfl rfl rfl ?_
                  have ha : doneS (hv h 15) M ≠ 0 := c33
                  refine lp_share7a hI (hS.2.1.th hM5 hN6) hr ha ?_ M 0 (by omega)
                  refine g_iconst d_X7_share_80 ik_0 ?_
                  refine w_istore (L' := [_, _, _, _, _, _, _]) d_X7_share_81 rfl rfl rfl ?_
                  refine g_iconst d_X7_share_83 ik_0 ?_
                  refine w_istore (L' := [_, _, _, _, _, _, _]) d_X7_share_84 rfl rfl rfl ?_
                  refine lp_share7b hI (hS.2.1.th hM5 hN6) hr ?_ r 0 (by omega)
                  refine g_iload_n d_X7_share_121 rfl ?_
                  refine g_aload_n d_X7_share_122 rfl ?_
                  refine h_getR d_X7_share_123 fl_7_31 sp_M rfl ?_
                  refine g_bipush d_X7_share_126 bk_13 ?_
                  refine g_iload_n d_X7_share_128 rfl ?_
                  refine g_iadd d_X7_share_129 ?_
                  refine mm_aldV (k := (13 + r)) (v := hv h 15 6 r) d_X7_share_130 (j := 8) sp_m_s rfl (by decide) (nAdd rfl rfl) (by omega) (by decide) ((hs_j (by decide)).trans (hS.2.1.2.1 r hr).2.2.2.2.2.symm) ?_
                  refine g_imul d_X7_share_131 ?_
                  refine g_iload_n d_X7_share_132 rfl ?_
                  refine g_idiv d_X7_share_133 (ha) ?_
                  refine g_aload_n d_X7_share_134 rfl ?_
                  refine h_getR d_X7_share_135 fl_7_31 sp_M rfl ?_
                  refine g_bipush d_X7_share_138 bk_13 ?_
                  refine g_iload_n d_X7_share_140 rfl ?_
                  refine g_iadd d_X7_share_141 ?_
                  refine mm_aldV (k := (13 + r)) (v := hv h 15 6 r) d_X7_share_142 (j := 8) sp_m_s rfl (by decide) (nAdd rfl rfl) (by omega) (by decide) ((hs_j (by decide)).trans (hS.2.1.2.1 r hr).2.2.2.2.2.symm) ?_
                  refine g_if_le d_X7_share_143 (fun c143 => ?_) (fun c143 => absurd (show hv h 15 6 r ≤ 0 by rw [c46]; decide) c143)
                  refine g_iconst d_X7_share_157 ik_0 ?_
                  refine g_iadd d_X7_share_158 ?_
                  refine h_iret d_X7_share_159 rfl ?_
                  exact ⟨by rw [c46, Int32.mul_zero, Int32.zero_div, Int32.add_zero], _, _, rfl, hR.fr fr_thrown⟩
                · refine g_iconst d_X7_share_36 ik_0 ?_
                  refine h_iret d_X7_share_37 rfl ?_
                  exact ⟨rfl, _, _, rfl, hR.fr fr_thrown⟩
              · exfalso
                simp only [b2i_eq0, b2i_ne0, Int32.lt_iff_toInt_lt, Int32.le_iff_toInt_le, t_0, t_1, t_2, t_3, t_4, t_5, t_6, t_7, t_8, t_9, t_10, t_11, t_12, t_20, t_24, t_40, t_50, t_60, t_99, t_110, t_255, t_999, t_999999, t_m1, er, en, gM, gN, eM, eN, eM1, eN1] at *
                omega
      · refine g_ldc d_X6_share_22 kc_X6_66 ?_
        refine h_iret d_X6_share_24 rfl ?_
        refine ⟨_, rfl, ?_⟩
        rw [← mu_15]
        refine MtH.of [some (.ref 360), some (.int x), some (.int y), none, none, none, none] pl_X7 rfl rfl ?_
        refine g_aload_n d_X7_share_0 rfl ?_
        refine g_iconst d_X7_share_1 ik_0 ?_
        refine mm_putI d_X7_share_2 fl_7_62 sp_M rfl ?_
        refine g_aload_n d_X7_share_5 rfl ?_
        refine g_iload_n d_X7_share_6 rfl ?_
        refine h_V1i d_X7_share_7 cl_7_201 (m7_isMachine ((hs_j (by decide)).trans wM)) sp_M (by decide) rfl (Nat.le_of_ble_eq_true rfl) (by decide) ?_
        refine g_if_eq d_X7_share_10 (fun c10 => ?_) (fun c10 => ?_)
        · refine g_ldc d_X7_share_24 kc_X7_78 ?_
          refine h_iret d_X7_share_26 rfl ?_
          exact ⟨rfl, _, _, rfl, hR.fr fr_thrown⟩
        · refine g_iload_n d_X7_share_13 rfl ?_
          refine g_iconst d_X7_share_14 ik_0 ?_
          refine g_sipush d_X7_share_15 sk_999 ?_
          refine h_S3i d_X7_share_18 cl_7_70 m7_in (Nat.le_of_ble_eq_true rfl) (by decide) ?_
          refine g_if_ne d_X7_share_21 (fun c21 => ?_) (fun c21 => ?_)
          · exfalso
            simp only [b2i_eq0, b2i_ne0, Int32.lt_iff_toInt_lt, Int32.le_iff_toInt_le, t_0, t_1, t_2, t_3, t_4, t_5, t_6, t_7, t_8, t_9, t_10, t_11, t_12, t_20, t_24, t_40, t_50, t_60, t_99, t_110, t_255, t_999, t_999999, t_m1, gM, gN, eM, eN, eM1, eN1] at *
            omega
          · refine g_ldc d_X7_share_24 kc_X7_78 ?_
            refine h_iret d_X7_share_26 rfl ?_
            exact ⟨rfl, _, _, rfl, hR.fr fr_thrown⟩
