/-! OPS: fills -/
def flS (g : Hv) (rm dr a0 : Int32) (N : Nat) : Nat → Int32 × Int32 × Int32
  | 0 => (0, 0, a0)
  | j + 1 => if nI (j + 1) &&& dr = 0 ∧ sizeS g (nI (j + 1)) N = rm then ((flS g rm dr a0 N j).1 + 1, (flS g rm dr a0 N j).2.1 ||| nI (j + 1), (flS g rm dr a0 N j).2.2 &&& nI (j + 1)) else flS g rm dr a0 N j
theorem fl_y {g : Hv} {rm dr a0 : Int32} {N j : Nat} (h1 : nI (j + 1) &&& dr = 0) (h2 : sizeS g (nI (j + 1)) N = rm) : flS g rm dr a0 N (j + 1) = ((flS g rm dr a0 N j).1 + 1, (flS g rm dr a0 N j).2.1 ||| nI (j + 1), (flS g rm dr a0 N j).2.2 &&& nI (j + 1)) := if_pos ⟨h1, h2⟩
theorem fl_n {g : Hv} {rm dr a0 : Int32} {N j : Nat} (h : ¬ nI (j + 1) &&& dr = 0 ∨ ¬ sizeS g (nI (j + 1)) N = rm) : flS g rm dr a0 N (j + 1) = flS g rm dr a0 N j := if_neg (fun q => h.elim (fun z => z q.1) (fun z => z q.2))
theorem and63 : ∀ b, b < 64 → (-1 : Int32) &&& nI b = nI b ∧ 63 &&& nI b = nI b := by decide +kernel
theorem bit64 : ∀ b, b < 64 → ∀ k, k < 6 → nI b >>> (nI k &&& 31) &&& 1 = 0 ∨ nI b >>> (nI k &&& 31) &&& 1 = 1 := by decide +kernel
theorem sh1 : ∀ n, n ≤ 6 → (1 : Int32) <<< (nI n &&& 31) = nI (2 ^ n) := by decide +kernel
theorem fl_rel {g : Hv} {rm dr : Int32} {N : Nat} : ∀ j, j < 64 → (flS g rm dr (-1) N j).1 = (flS g rm dr 63 N j).1 ∧ (flS g rm dr (-1) N j).2.1 = (flS g rm dr 63 N j).2.1 ∧ (((flS g rm dr (-1) N j).1 = 0 ∧ (flS g rm dr (-1) N j).2.2 = -1 ∧ (flS g rm dr 63 N j).2.2 = 63) ∨ ((∃ m, 1 ≤ m ∧ m ≤ j ∧ (flS g rm dr (-1) N j).1 = nI m) ∧ (flS g rm dr (-1) N j).2.2 = (flS g rm dr 63 N j).2.2))
  | 0, _ => ⟨rfl, rfl, Or.inl ⟨rfl, rfl, rfl⟩⟩
  | j + 1, hj => by
    obtain ⟨e1, e2, e3⟩ := fl_rel (g := g) (rm := rm) (dr := dr) (N := N) j (by omega)
    by_cases h : nI (j + 1) &&& dr = 0 ∧ sizeS g (nI (j + 1)) N = rm
    · rw [fl_y h.1 h.2, fl_y h.1 h.2]
      dsimp only
      refine ⟨by rw [e1], by rw [e2], Or.inr ?_⟩
      rcases e3 with ⟨z1, z2, z3⟩ | ⟨⟨m, m1, m2, m3⟩, z2⟩
      · exact ⟨⟨1, by omega, by omega, by rw [z1]; rfl⟩, by rw [z2, z3, (and63 (j + 1) hj).1, (and63 (j + 1) hj).2]⟩
      · exact ⟨⟨m + 1, by omega, by omega, by rw [m3, nI_1]⟩, by rw [z2]⟩
    · have h' : ¬ nI (j + 1) &&& dr = 0 ∨ ¬ sizeS g (nI (j + 1)) N = rm := by
        by_cases z : nI (j + 1) &&& dr = 0
        · exact Or.inr (fun q => h ⟨z, q⟩)
        · exact Or.inl z
      rw [fl_n h', fl_n h']
      refine ⟨e1, e2, ?_⟩
      rcases e3 with z | ⟨⟨m, m1, m2, m3⟩, z2⟩
      · exact Or.inl z
      · exact Or.inr ⟨⟨m, m1, by omega, m3⟩, z2⟩
theorem lp_fills6 {H g : Hv} {M N r : Nat} (hI : HI M N g) (hr : r < M) {E : Nat} (hE : (1 : Int32) <<< (nI N &&& 31) = nI E) (hE64 : E ≤ 64) {y dr : Int32} {P : Option Value → Hv → Prop} (kx : GdH M_X6_fills 2 110 [some (.ref 0), some (.int (nI r)), some (.int y), some (.int (flS g (g 2 r) dr (-1) N (E - 1)).1), some (.int (flS g (g 2 r) dr (-1) N (E - 1)).2.1), some (.int (flS g (g 2 r) dr (-1) N (E - 1)).2.2), some (.int dr), some (.int (nI E))] [] (pu H 15 g) P) : ∀ (m j : Nat), j + 1 + m = E → GdH M_X6_fills 2 44 [some (.ref 0), some (.int (nI r)), some (.int y), some (.int (flS g (g 2 r) dr (-1) N j).1), some (.int (flS g (g 2 r) dr (-1) N j).2.1), some (.int (flS g (g 2 r) dr (-1) N j).2.2), some (.int dr), some (.int (nI (j + 1)))] [] (pu H 15 g) P := by
  have hN6 := hI.hN6
  have hM5 := hI.hM5
  intro m
  induction m with
  | zero =>
    intro j hj
    have hj' : E = j + 1 := by omega
    subst hj'
    refine g_iload d_X6_fills_44 rfl ?_
    refine g_iconst d_X6_fills_46 ik_1 ?_
    refine g_aload_n d_X6_fills_47 rfl ?_
    refine h_getR d_X6_fills_48 fl_6_26 sp_L rfl ?_
    refine hh_getV (v := nI N) d_X6_fills_51 fl_6_262 hall_15 (by decide) (hI.hN) ?_
    refine g_ishl d_X6_fills_54 ?_
    rw [hE]
    refine g_icmp_ge d_X6_fills_55 (fun c55 => ?_) (fun c55 => absurd (nI_le (a := j + 1) (b := j + 1) (Nat.le_refl _) (by omega)) c55)
    have q := kx
    rw [Nat.add_sub_cancel] at q
    exact q
  | succ m ih =>
    intro j hj
    refine g_iload d_X6_fills_44 rfl ?_
    refine g_iconst d_X6_fills_46 ik_1 ?_
    refine g_aload_n d_X6_fills_47 rfl ?_
    refine h_getR d_X6_fills_48 fl_6_26 sp_L rfl ?_
    refine hh_getV (v := nI N) d_X6_fills_51 fl_6_262 hall_15 (by decide) (hI.hN) ?_
    refine g_ishl d_X6_fills_54 ?_
    rw [hE]
    refine g_icmp_ge d_X6_fills_55 (fun c55 => absurd c55 (nI_ge (a := j + 1) (b := E) (by omega) (by omega))) (fun c55 => ?_)
    refine g_iload d_X6_fills_58 rfl ?_
    refine g_iload d_X6_fills_60 rfl ?_
    refine g_iand d_X6_fills_62 ?_
    refine g_if_ne d_X6_fills_63 (fun c63 => ?_) (fun c63 => ?_)
    · refine w_iinc (L' := [_, _, _, _, _, _, _, _]) d_X6_fills_104 ik_1 rfl rfl rfl rfl ?_
      refine g_goto d_X6_fills_107 ?_
      have q := ih (j + 1) (by omega)
      rw [nI_1]
      first | (rw [fl_y c63 c84] at q; exact q) | (rw [fl_n (Or.inl c63)] at q; exact q) | (rw [fl_n (Or.inr c84)] at q; exact q)
    · refine g_aload_n d_X6_fills_66 rfl ?_
      refine h_getR d_X6_fills_67 fl_6_26 sp_L rfl ?_
      refine g_iload d_X6_fills_70 rfl ?_
      refine h_V1i d_X6_fills_72 cl_6_280 (m_sizeOfAll hall_15 hI.hN hN6) (sp_hall hall_15) (by decide) rfl (Nat.le_of_ble_eq_true rfl) (by decide) ?_
      refine g_aload_n d_X6_fills_75 rfl ?_
      refine h_getR d_X6_fills_76 fl_6_26 sp_L rfl ?_
      refine h_getR d_X6_fills_79 fl_6_196 (sp_hall hall_15) rfl ?_
      refine g_iload_n d_X6_fills_82 rfl ?_
      refine hh_aldE (k := r) d_X6_fills_83 (sp_h2 hall_15) (by decide) rfl (by omega) (by decide) ?_
      refine g_icmp_ne d_X6_fills_84 (fun c84 => ?_) (fun c84 => ?_)
      · refine w_iinc (L' := [_, _, _, _, _, _, _, _]) d_X6_fills_104 ik_1 rfl rfl rfl rfl ?_
        refine g_goto d_X6_fills_107 ?_
        have q := ih (j + 1) (by omega)
        rw [nI_1]
        first | (rw [fl_y c63 c84] at q; exact q) | (rw [fl_n (Or.inl c63)] at q; exact q) | (rw [fl_n (Or.inr c84)] at q; exact q)
      · refine w_iinc (L' := [_, _, _, _, _, _, _, _]) d_X6_fills_87 ik_1 rfl rfl rfl rfl ?_
        refine g_iload d_X6_fills_90 rfl ?_
        refine g_iload d_X6_fills_92 rfl ?_
        refine g_ior d_X6_fills_94 ?_
        refine w_istore (L' := [_, _, _, _, _, _, _, _]) d_X6_fills_95 rfl rfl rfl ?_
        refine g_iload d_X6_fills_97 rfl ?_
        refine g_iload d_X6_fills_99 rfl ?_
        refine g_iand d_X6_fills_101 ?_
        refine w_istore (L' := [_, _, _, _, _, _, _, _]) d_X6_fills_102 rfl rfl rfl ?_
        refine w_iinc (L' := [_, _, _, _, _, _, _, _]) d_X6_fills_104 ik_1 rfl rfl rfl rfl ?_
        refine g_goto d_X6_fills_107 ?_
        have q := ih (j + 1) (by omega)
        rw [nI_1]
        first | (rw [fl_y c63 c84] at q; exact q) | (rw [fl_n (Or.inl c63)] at q; exact q) | (rw [fl_n (Or.inr c84)] at q; exact q)
theorem lp_fsum {h w g : Hv} {M N r b : Nat} (hI : HI M N g) (hR : Rep0 M N g w 7 8) (hb : b < 64) {y v3 v4 v5 v6 : Int32} {P : Option Value → Hv → Prop} (kx : GdH M_X7_fills 2 113 [some (.ref 360), some (.int (nI r)), some (.int y), some (.int v3), some (.int v4), some (.int v5), some (.int v6), some (.int (nI b)), some (.int (sizeS g (nI b) N)), some (.int (nI N))] [] (mu h w) P) : ∀ (n j : Nat), j + n = N → GdH M_X7_fills 2 67 [some (.ref 360), some (.int (nI r)), some (.int y), some (.int v3), some (.int v4), some (.int v5), some (.int v6), some (.int (nI b)), some (.int (sizeS g (nI b) j)), some (.int (nI j))] [] (mu h w) P := by
  intro n
  induction n with
  | zero =>
    intro j hj
    have hN6 := hI.hN6
    have hj' : j = N := by omega
    rw [hj']
    refine g_iload d_X7_fills_67 rfl ?_
    refine g_aload_n d_X7_fills_69 rfl ?_
    refine h_getR d_X7_fills_70 fl_7_28 sp_M rfl ?_
    refine g_iconst d_X7_fills_73 ik_1 ?_
    refine mm_aldV (k := 1) (v := nI N) d_X7_fills_74 (j := 7) sp_m_d rfl (by decide) rfl (by omega) (by decide) (hR.1.2.2.2.1.symm.trans hI.hN) ?_
    refine g_icmp_ge d_X7_fills_75 (fun c75 => ?_) (fun c75 => absurd (nI_le (a := N) (b := N) (Nat.le_refl _) (by omega)) c75)
    exact kx
  | succ n ih =>
    intro j hj
    have hN6 := hI.hN6
    refine g_iload d_X7_fills_67 rfl ?_
    refine g_aload_n d_X7_fills_69 rfl ?_
    refine h_getR d_X7_fills_70 fl_7_28 sp_M rfl ?_
    refine g_iconst d_X7_fills_73 ik_1 ?_
    refine mm_aldV (k := 1) (v := nI N) d_X7_fills_74 (j := 7) sp_m_d rfl (by decide) rfl (by omega) (by decide) (hR.1.2.2.2.1.symm.trans hI.hN) ?_
    refine g_icmp_ge d_X7_fills_75 (fun c75 => absurd c75 (nI_ge (a := j) (b := N) (by omega) (by omega))) (fun c75 => ?_)
    refine g_iload d_X7_fills_78 rfl ?_
    refine g_iload d_X7_fills_80 rfl ?_
    refine g_iload d_X7_fills_82 rfl ?_
    refine h_S2i d_X7_fills_84 cl_7_162 m7_has (Nat.le_of_ble_eq_true rfl) (by decide) ?_
    refine g_if_eq d_X7_fills_87 (fun c87 => ?_) (fun c87 => ?_)
    · refine g_iconst d_X7_fills_103 ik_0 ?_
      refine g_iadd d_X7_fills_104 ?_
      refine w_istore (L' := [_, _, _, _, _, _, _, _, _, _]) d_X7_fills_105 rfl rfl rfl ?_
      refine w_iinc (L' := [_, _, _, _, _, _, _, _, _, _]) d_X7_fills_107 ik_1 rfl rfl rfl rfl ?_
      refine g_goto d_X7_fills_110 ?_
      have q := ih (j + 1) (by omega)
      first | rw [sizeS, b2i_ne0.mp c87, Int32.one_mul] at q | rw [sizeS, (bit64 b hb j (by omega)).resolve_right (b2i_eq0.mp c87), Int32.zero_mul] at q
      rw [nI_1]
      exact q
    · refine g_aload_n d_X7_fills_90 rfl ?_
      refine h_getR d_X7_fills_91 fl_7_31 sp_M rfl ?_
      refine g_bipush d_X7_fills_94 bk_18 ?_
      refine g_iload d_X7_fills_96 rfl ?_
      refine g_iadd d_X7_fills_98 ?_
      refine mm_aldV (k := (18 + j)) (v := g 7 j) d_X7_fills_99 (j := 8) sp_m_s rfl (by decide) (nAdd rfl rfl) (by omega) (by decide) ((hR.2.2 j (by omega)).1.symm) ?_
      refine g_goto d_X7_fills_100 ?_
      refine g_iadd d_X7_fills_104 ?_
      refine w_istore (L' := [_, _, _, _, _, _, _, _, _, _]) d_X7_fills_105 rfl rfl rfl ?_
      refine w_iinc (L' := [_, _, _, _, _, _, _, _, _, _]) d_X7_fills_107 ik_1 rfl rfl rfl rfl ?_
      refine g_goto d_X7_fills_110 ?_
      have q := ih (j + 1) (by omega)
      first | rw [sizeS, b2i_ne0.mp c87, Int32.one_mul] at q | rw [sizeS, (bit64 b hb j (by omega)).resolve_right (b2i_eq0.mp c87), Int32.zero_mul] at q
      rw [nI_1]
      exact q
theorem lp_fills7 {h w g : Hv} {M N r : Nat} (hI : HI M N g) (hR : Rep0 M N g w 7 8) (hr : r < M) {E : Nat} (hE : (1 : Int32) <<< (nI N &&& 31) = nI E) (hE64 : E ≤ 64) {y dr : Int32} {P : Option Value → Hv → Prop} (kx : ∀ (y8 y9 : Option Value), GdH M_X7_fills 2 158 [some (.ref 360), some (.int (nI r)), some (.int y), some (.int (flS g (g 2 r) dr 63 N (E - 1)).1), some (.int (flS g (g 2 r) dr 63 N (E - 1)).2.2), some (.int (flS g (g 2 r) dr 63 N (E - 1)).2.1), some (.int dr), some (.int (nI E)), y8, y9] [] (mu h w) P) : ∀ (m j : Nat), j + 1 + m = E → ∀ (y8 y9 : Option Value), GdH M_X7_fills 2 48 [some (.ref 360), some (.int (nI r)), some (.int y), some (.int (flS g (g 2 r) dr 63 N j).1), some (.int (flS g (g 2 r) dr 63 N j).2.2), some (.int (flS g (g 2 r) dr 63 N j).2.1), some (.int dr), some (.int (nI (j + 1))), y8, y9] [] (mu h w) P := by
  have hN6 := hI.hN6
  have hM5 := hI.hM5
  intro m
  induction m with
  | zero =>
    intro j hj y8 y9
    have hj' : E = j + 1 := by omega
    subst hj'
    refine g_iload d_X7_fills_48 rfl ?_
    refine g_iconst d_X7_fills_50 ik_1 ?_
    refine g_aload_n d_X7_fills_51 rfl ?_
    refine h_getR d_X7_fills_52 fl_7_28 sp_M rfl ?_
    refine g_iconst d_X7_fills_55 ik_1 ?_
    refine mm_aldV (k := 1) (v := nI N) d_X7_fills_56 (j := 7) sp_m_d rfl (by decide) rfl (by omega) (by decide) (hR.1.2.2.2.1.symm.trans hI.hN) ?_
    refine g_ishl d_X7_fills_57 ?_
    rw [hE]
    refine g_icmp_ge d_X7_fills_58 (fun c58 => ?_) (fun c58 => absurd (nI_le (a := j + 1) (b := j + 1) (Nat.le_refl _) (by omega)) c58)
    have q := kx y8 y9
    rw [Nat.add_sub_cancel] at q
    exact q
  | succ m ih =>
    intro j hj y8 y9
    refine g_iload d_X7_fills_48 rfl ?_
    refine g_iconst d_X7_fills_50 ik_1 ?_
    refine g_aload_n d_X7_fills_51 rfl ?_
    refine h_getR d_X7_fills_52 fl_7_28 sp_M rfl ?_
    refine g_iconst d_X7_fills_55 ik_1 ?_
    refine mm_aldV (k := 1) (v := nI N) d_X7_fills_56 (j := 7) sp_m_d rfl (by decide) rfl (by omega) (by decide) (hR.1.2.2.2.1.symm.trans hI.hN) ?_
    refine g_ishl d_X7_fills_57 ?_
    rw [hE]
    refine g_icmp_ge d_X7_fills_58 (fun c58 => absurd c58 (nI_ge (a := j + 1) (b := E) (by omega) (by omega))) (fun c58 => ?_)
    refine g_iconst d_X7_fills_61 ik_0 ?_
    refine w_istore (L' := [_, _, _, _, _, _, _, _, _, _]) d_X7_fills_62 rfl rfl rfl ?_
    refine g_iconst d_X7_fills_64 ik_0 ?_
    refine w_istore (L' := [_, _, _, _, _, _, _, _, _, _]) d_X7_fills_65 rfl rfl rfl ?_
    refine lp_fsum hI hR (by omega) ?_ N 0 (by omega)
    refine g_iload d_X7_fills_113 rfl ?_
    refine g_iload d_X7_fills_115 rfl ?_
    refine g_iand d_X7_fills_117 ?_
    refine g_if_ne d_X7_fills_118 (fun c118 => ?_) (fun c118 => ?_)
    · refine w_iinc (L' := [_, _, _, _, _, _, _, _, _, _]) d_X7_fills_152 ik_1 rfl rfl rfl rfl ?_
      refine g_goto d_X7_fills_155 ?_
      have q := ih (j + 1) (by omega) (some (.int (sizeS g (nI (j + 1)) N))) (some (.int (nI N)))
      rw [nI_1]
      first | (rw [fl_y c118 c132] at q; exact q) | (rw [fl_n (Or.inl c118)] at q; exact q) | (rw [fl_n (Or.inr c132)] at q; exact q)
    · refine g_iload d_X7_fills_121 rfl ?_
      refine g_aload_n d_X7_fills_123 rfl ?_
      refine h_getR d_X7_fills_124 fl_7_28 sp_M rfl ?_
      refine g_bipush d_X7_fills_127 bk_7 ?_
      refine g_iload_n d_X7_fills_129 rfl ?_
      refine g_iadd d_X7_fills_130 ?_
      refine mm_aldV (k := (7 + r)) (v := g 2 r) d_X7_fills_131 (j := 7) sp_m_d rfl (by decide) (nAdd rfl rfl) (by omega) (by decide) ((hR.2.1 r hr).2.1.symm) ?_
      refine g_icmp_ne d_X7_fills_132 (fun c132 => ?_) (fun c132 => ?_)
      · refine w_iinc (L' := [_, _, _, _, _, _, _, _, _, _]) d_X7_fills_152 ik_1 rfl rfl rfl rfl ?_
        refine g_goto d_X7_fills_155 ?_
        have q := ih (j + 1) (by omega) (some (.int (sizeS g (nI (j + 1)) N))) (some (.int (nI N)))
        rw [nI_1]
        first | (rw [fl_y c118 c132] at q; exact q) | (rw [fl_n (Or.inl c118)] at q; exact q) | (rw [fl_n (Or.inr c132)] at q; exact q)
      · refine w_iinc (L' := [_, _, _, _, _, _, _, _, _, _]) d_X7_fills_135 ik_1 rfl rfl rfl rfl ?_
        refine g_iload d_X7_fills_138 rfl ?_
        refine g_iload d_X7_fills_140 rfl ?_
        refine g_iand d_X7_fills_142 ?_
        refine w_istore (L' := [_, _, _, _, _, _, _, _, _, _]) d_X7_fills_143 rfl rfl rfl ?_
        refine g_iload d_X7_fills_145 rfl ?_
        refine g_iload d_X7_fills_147 rfl ?_
        refine g_ior d_X7_fills_149 ?_
        refine w_istore (L' := [_, _, _, _, _, _, _, _, _, _]) d_X7_fills_150 rfl rfl rfl ?_
        refine w_iinc (L' := [_, _, _, _, _, _, _, _, _, _]) d_X7_fills_152 ik_1 rfl rfl rfl rfl ?_
        refine g_goto d_X7_fills_155 ?_
        have q := ih (j + 1) (by omega) (some (.int (sizeS g (nI (j + 1)) N))) (some (.int (nI N)))
        rw [nI_1]
        first | (rw [fl_y c118 c132] at q; exact q) | (rw [fl_n (Or.inl c118)] at q; exact q) | (rw [fl_n (Or.inr c132)] at q; exact q)
theorem op_fills {h w : Hv} (hR : RelP h w) {x y : Int32} : OPI M_X6_fills M_X7_fills 2 2 [.int x, .int y] (mu h w) := by
  obtain ⟨M, N, hM5, hN6, gM, wM, gN, wN, hZ⟩ := hR.mn
  have eM : (nI M).toInt = M := nI_toInt (by omega)
  have eN : (nI N).toInt = N := nI_toInt (by omega)
  have eM1 := nI_predI (t := M) (by omega)
  have eN1 := nI_predI (t := N) (by omega)
  rw [mu_15]
  refine MtH.of [some (.ref 0), some (.int x), some (.int y), none, none, none, none, none] pl_X6 rfl rfl ?_
  refine g_aload_n d_X6_fills_0 rfl ?_
  refine h_getR d_X6_fills_1 fl_6_26 sp_L rfl ?_
  refine g_iload_n d_X6_fills_4 rfl ?_
  refine h_V1i d_X6_fills_5 cl_6_170 (m_hasMachine hall_15) (sp_hall hall_15) (by decide) rfl (Nat.le_of_ble_eq_true rfl) (by decide) ?_
  refine g_if_eq d_X6_fills_8 (fun c8 => ?_) (fun c8 => ?_)
  · refine g_ldc d_X6_fills_20 kc_X6_66 ?_
    refine h_iret d_X6_fills_22 rfl ?_
    refine ⟨_, rfl, ?_⟩
    rw [← mu_15]
    refine MtH.of [some (.ref 360), some (.int x), some (.int y), none, none, none, none, none, none, none] pl_X7 rfl rfl ?_
    refine g_aload_n d_X7_fills_0 rfl ?_
    refine g_iconst d_X7_fills_1 ik_0 ?_
    refine mm_putI d_X7_fills_2 fl_7_62 sp_M rfl ?_
    refine g_aload_n d_X7_fills_5 rfl ?_
    refine g_iload_n d_X7_fills_6 rfl ?_
    refine h_V1i d_X7_fills_7 cl_7_201 (m7_isMachine ((hs_j (by decide)).trans wM)) sp_M (by decide) rfl (Nat.le_of_ble_eq_true rfl) (by decide) ?_
    refine g_if_eq d_X7_fills_10 (fun c10 => ?_) (fun c10 => ?_)
    · refine g_ldc d_X7_fills_22 kc_X7_78 ?_
      refine h_iret d_X7_fills_24 rfl ?_
      exact ⟨rfl, _, _, rfl, hR.fr fr_thrown⟩
    · refine g_iload_n d_X7_fills_13 rfl ?_
      refine g_iconst d_X7_fills_14 ik_0 ?_
      refine g_iconst d_X7_fills_15 ik_2 ?_
      refine h_S3i d_X7_fills_16 cl_7_70 m7_in (Nat.le_of_ble_eq_true rfl) (by decide) ?_
      refine g_if_ne d_X7_fills_19 (fun c19 => ?_) (fun c19 => ?_)
      · exfalso
        simp only [b2i_eq0, b2i_ne0, Int32.lt_iff_toInt_lt, Int32.le_iff_toInt_le, t_0, t_1, t_2, t_3, t_4, t_5, t_6, t_7, t_8, t_9, t_10, t_11, t_12, t_20, t_24, t_40, t_50, t_60, t_99, t_110, t_255, t_999, t_999999, t_m1, gM, gN, eM, eN, eM1, eN1] at *
        omega
      · refine g_ldc d_X7_fills_22 kc_X7_78 ?_
        refine h_iret d_X7_fills_24 rfl ?_
        exact ⟨rfl, _, _, rfl, hR.fr fr_thrown⟩
  · refine g_iload_n d_X6_fills_11 rfl ?_
    refine g_if_lt d_X6_fills_12 (fun c12 => ?_) (fun c12 => ?_)
    · refine g_ldc d_X6_fills_20 kc_X6_66 ?_
      refine h_iret d_X6_fills_22 rfl ?_
      refine ⟨_, rfl, ?_⟩
      rw [← mu_15]
      refine MtH.of [some (.ref 360), some (.int x), some (.int y), none, none, none, none, none, none, none] pl_X7 rfl rfl ?_
      refine g_aload_n d_X7_fills_0 rfl ?_
      refine g_iconst d_X7_fills_1 ik_0 ?_
      refine mm_putI d_X7_fills_2 fl_7_62 sp_M rfl ?_
      refine g_aload_n d_X7_fills_5 rfl ?_
      refine g_iload_n d_X7_fills_6 rfl ?_
      refine h_V1i d_X7_fills_7 cl_7_201 (m7_isMachine ((hs_j (by decide)).trans wM)) sp_M (by decide) rfl (Nat.le_of_ble_eq_true rfl) (by decide) ?_
      refine g_if_eq d_X7_fills_10 (fun c10 => ?_) (fun c10 => ?_)
      · refine g_ldc d_X7_fills_22 kc_X7_78 ?_
        refine h_iret d_X7_fills_24 rfl ?_
        exact ⟨rfl, _, _, rfl, hR.fr fr_thrown⟩
      · refine g_iload_n d_X7_fills_13 rfl ?_
        refine g_iconst d_X7_fills_14 ik_0 ?_
        refine g_iconst d_X7_fills_15 ik_2 ?_
        refine h_S3i d_X7_fills_16 cl_7_70 m7_in (Nat.le_of_ble_eq_true rfl) (by decide) ?_
        refine g_if_ne d_X7_fills_19 (fun c19 => ?_) (fun c19 => ?_)
        · exfalso
          simp only [b2i_eq0, b2i_ne0, Int32.lt_iff_toInt_lt, Int32.le_iff_toInt_le, t_0, t_1, t_2, t_3, t_4, t_5, t_6, t_7, t_8, t_9, t_10, t_11, t_12, t_20, t_24, t_40, t_50, t_60, t_99, t_110, t_255, t_999, t_999999, t_m1, gM, gN, eM, eN, eM1, eN1] at *
          omega
        · refine g_ldc d_X7_fills_22 kc_X7_78 ?_
          refine h_iret d_X7_fills_24 rfl ?_
          exact ⟨rfl, _, _, rfl, hR.fr fr_thrown⟩
    · refine g_iload_n d_X6_fills_15 rfl ?_
      refine g_iconst d_X6_fills_16 ik_2 ?_
      refine g_icmp_le d_X6_fills_17 (fun c17 => ?_) (fun c17 => ?_)
      · obtain ⟨r, hr, rfl⟩ := rngI (x := x) (B := M) (by simp only [b2i_eq0, b2i_ne0, Int32.lt_iff_toInt_lt, Int32.le_iff_toInt_le, t_0, t_1, t_2, t_3, t_4, t_5, t_6, t_7, t_8, t_9, t_10, t_11, t_12, t_20, t_24, t_40, t_50, t_60, t_99, t_110, t_255, t_999, t_999999, t_m1, gM, gN, eM, eN, eM1, eN1] at *; omega) (by simp only [b2i_eq0, b2i_ne0, Int32.lt_iff_toInt_lt, Int32.le_iff_toInt_le, t_0, t_1, t_2, t_3, t_4, t_5, t_6, t_7, t_8, t_9, t_10, t_11, t_12, t_20, t_24, t_40, t_50, t_60, t_99, t_110, t_255, t_999, t_999999, t_m1, gM, gN, eM, eN, eM1, eN1] at *; omega)
        have er : (nI r).toInt = r := nI_toInt (by omega)
        obtain ⟨i0, c0, hi0, hi1, hS, hA, hO⟩ := (hZ.resolve_left (fun z => by have := z.1; have := z.2.1; omega)).2.2
        have hI := hS.1
        refine g_iconst d_X6_fills_23 ik_0 ?_
        refine w_istore_n (L' := [_, _, _, _, _, _, _, _]) d_X6_fills_24 rfl rfl rfl ?_
        refine g_iconst d_X6_fills_25 ik_0 ?_
        refine w_istore (L' := [_, _, _, _, _, _, _, _]) d_X6_fills_26 rfl rfl rfl ?_
        refine g_iconst d_X6_fills_28 ik_m1 ?_
        refine w_istore (L' := [_, _, _, _, _, _, _, _]) d_X6_fills_29 rfl rfl rfl ?_
        refine g_aload_n d_X6_fills_31 rfl ?_
        refine h_getR d_X6_fills_32 fl_6_26 sp_L rfl ?_
        refine g_iconst d_X6_fills_35 ik_2 ?_
        refine h_V1i d_X6_fills_36 cl_6_167 (m_whichAre hall_15 gN hN6) (sp_hall hall_15) (by decide) rfl (Nat.le_of_ble_eq_true rfl) (by decide) ?_
        refine w_istore (L' := [_, _, _, _, _, _, _, _]) d_X6_fills_39 rfl rfl rfl ?_
        refine g_iconst d_X6_fills_41 ik_1 ?_
        refine w_istore (L' := [_, _, _, _, _, _, _, _]) d_X6_fills_42 rfl rfl rfl ?_
        have hp1 : 1 ≤ 2 ^ N := Nat.one_le_two_pow
        obtain ⟨e1, e2, e3⟩ := fl_rel (g := hv h 15) (rm := hv h 15 2 r) (dr := (whS (hv h 15) 2 N)) (N := N) (2 ^ N - 1) (by have := pow6 hN6; omega)
        refine lp_fills6 hI hr (sh1 N hN6) (pow6 hN6) ?_ (2 ^ N - 1) 0 (by omega)
        refine g_iload_n d_X6_fills_110 rfl ?_
        refine sw_X6_fills_111 (fun e0 => ?_) (fun e1 => ?_) (fun q0 q1 => ?_)
        · subst e0
          refine g_iload_n d_X6_fills_136 rfl ?_
          refine h_iret d_X6_fills_137 rfl ?_
          refine ⟨_, rfl, ?_⟩
          rw [← mu_15]
          refine MtH.of [some (.ref 360), some (.int (nI r)), some (.int 0), none, none, none, none, none, none, none] pl_X7 rfl rfl ?_
          refine g_aload_n d_X7_fills_0 rfl ?_
          refine g_iconst d_X7_fills_1 ik_0 ?_
          refine mm_putI d_X7_fills_2 fl_7_62 sp_M rfl ?_
          refine g_aload_n d_X7_fills_5 rfl ?_
          refine g_iload_n d_X7_fills_6 rfl ?_
          refine h_V1i d_X7_fills_7 cl_7_201 (m7_isMachine ((hs_j (by decide)).trans wM)) sp_M (by decide) rfl (Nat.le_of_ble_eq_true rfl) (by decide) ?_
          refine g_if_eq d_X7_fills_10 (fun c10 => ?_) (fun c10 => ?_)
          · exfalso
            simp only [b2i_eq0, b2i_ne0, Int32.lt_iff_toInt_lt, Int32.le_iff_toInt_le, t_0, t_1, t_2, t_3, t_4, t_5, t_6, t_7, t_8, t_9, t_10, t_11, t_12, t_20, t_24, t_40, t_50, t_60, t_99, t_110, t_255, t_999, t_999999, t_m1, er, gM, gN, eM, eN, eM1, eN1] at *
            omega
          · refine g_iload_n d_X7_fills_13 rfl ?_
            refine g_iconst d_X7_fills_14 ik_0 ?_
            refine g_iconst d_X7_fills_15 ik_2 ?_
            refine h_S3i d_X7_fills_16 cl_7_70 m7_in (Nat.le_of_ble_eq_true rfl) (by decide) ?_
            refine g_if_ne d_X7_fills_19 (fun c19 => ?_) (fun c19 => absurd c19 (by decide))
            refine g_iconst d_X7_fills_25 ik_0 ?_
            refine w_istore_n (L' := [_, _, _, _, _, _, _, _, _, _]) d_X7_fills_26 rfl rfl rfl ?_
            refine g_bipush d_X7_fills_27 bk_63 ?_
            refine w_istore (L' := [_, _, _, _, _, _, _, _, _, _]) d_X7_fills_29 rfl rfl rfl ?_
            refine g_iconst d_X7_fills_31 ik_0 ?_
            refine w_istore (L' := [_, _, _, _, _, _, _, _, _, _]) d_X7_fills_32 rfl rfl rfl ?_
            refine g_aload_n d_X7_fills_34 rfl ?_
            refine g_aload_n d_X7_fills_35 rfl ?_
            refine h_getR d_X7_fills_36 fl_7_31 sp_M rfl ?_
            refine g_iconst d_X7_fills_39 ik_2 ?_
            refine h_V2i d_X7_fills_40 cl_7_191 (m7_howAll ar_s (hS.2.1.th hM5 hN6) hN6 ((hs_j (by decide)).trans wN)) sp_M (by decide) rfl (Nat.le_of_ble_eq_true rfl) (by decide) ?_
            refine w_istore (L' := [_, _, _, _, _, _, _, _, _, _]) d_X7_fills_43 rfl rfl rfl ?_
            refine g_iconst d_X7_fills_45 ik_1 ?_
            refine w_istore (L' := [_, _, _, _, _, _, _, _, _, _]) d_X7_fills_46 rfl rfl rfl ?_
            refine lp_fills7 hI (hS.2.1.th hM5 hN6) hr (sh1 N hN6) (pow6 hN6) (fun y8 y9 => ?_) (2 ^ N - 1) 0 (by omega) none none
            refine g_iload_n d_X7_fills_158 rfl ?_
            refine g_if_ne d_X7_fills_159 (fun c159 => absurd c159 (by decide)) (fun c159 => ?_)
            refine g_iload_n d_X7_fills_162 rfl ?_
            refine g_goto d_X7_fills_163 ?_
            refine h_iret d_X7_fills_186 rfl ?_
            exact ⟨by rw [e1], _, _, rfl, hR.fr fr_thrown⟩
        · subst e1
          refine g_iload_n d_X6_fills_138 rfl ?_
          refine g_if_ne d_X6_fills_139 (fun c139 => ?_) (fun c139 => ?_)
          · refine g_iload d_X6_fills_146 rfl ?_
            refine h_iret d_X6_fills_148 rfl ?_
            refine ⟨_, rfl, ?_⟩
            rw [← mu_15]
            refine MtH.of [some (.ref 360), some (.int (nI r)), some (.int 1), none, none, none, none, none, none, none] pl_X7 rfl rfl ?_
            refine g_aload_n d_X7_fills_0 rfl ?_
            refine g_iconst d_X7_fills_1 ik_0 ?_
            refine mm_putI d_X7_fills_2 fl_7_62 sp_M rfl ?_
            refine g_aload_n d_X7_fills_5 rfl ?_
            refine g_iload_n d_X7_fills_6 rfl ?_
            refine h_V1i d_X7_fills_7 cl_7_201 (m7_isMachine ((hs_j (by decide)).trans wM)) sp_M (by decide) rfl (Nat.le_of_ble_eq_true rfl) (by decide) ?_
            refine g_if_eq d_X7_fills_10 (fun c10 => ?_) (fun c10 => ?_)
            · exfalso
              simp only [b2i_eq0, b2i_ne0, Int32.lt_iff_toInt_lt, Int32.le_iff_toInt_le, t_0, t_1, t_2, t_3, t_4, t_5, t_6, t_7, t_8, t_9, t_10, t_11, t_12, t_20, t_24, t_40, t_50, t_60, t_99, t_110, t_255, t_999, t_999999, t_m1, er, gM, gN, eM, eN, eM1, eN1] at *
              omega
            · refine g_iload_n d_X7_fills_13 rfl ?_
              refine g_iconst d_X7_fills_14 ik_0 ?_
              refine g_iconst d_X7_fills_15 ik_2 ?_
              refine h_S3i d_X7_fills_16 cl_7_70 m7_in (Nat.le_of_ble_eq_true rfl) (by decide) ?_
              refine g_if_ne d_X7_fills_19 (fun c19 => ?_) (fun c19 => absurd c19 (by decide))
              refine g_iconst d_X7_fills_25 ik_0 ?_
              refine w_istore_n (L' := [_, _, _, _, _, _, _, _, _, _]) d_X7_fills_26 rfl rfl rfl ?_
              refine g_bipush d_X7_fills_27 bk_63 ?_
              refine w_istore (L' := [_, _, _, _, _, _, _, _, _, _]) d_X7_fills_29 rfl rfl rfl ?_
              refine g_iconst d_X7_fills_31 ik_0 ?_
              refine w_istore (L' := [_, _, _, _, _, _, _, _, _, _]) d_X7_fills_32 rfl rfl rfl ?_
              refine g_aload_n d_X7_fills_34 rfl ?_
              refine g_aload_n d_X7_fills_35 rfl ?_
              refine h_getR d_X7_fills_36 fl_7_31 sp_M rfl ?_
              refine g_iconst d_X7_fills_39 ik_2 ?_
              refine h_V2i d_X7_fills_40 cl_7_191 (m7_howAll ar_s (hS.2.1.th hM5 hN6) hN6 ((hs_j (by decide)).trans wN)) sp_M (by decide) rfl (Nat.le_of_ble_eq_true rfl) (by decide) ?_
              refine w_istore (L' := [_, _, _, _, _, _, _, _, _, _]) d_X7_fills_43 rfl rfl rfl ?_
              refine g_iconst d_X7_fills_45 ik_1 ?_
              refine w_istore (L' := [_, _, _, _, _, _, _, _, _, _]) d_X7_fills_46 rfl rfl rfl ?_
              refine lp_fills7 hI (hS.2.1.th hM5 hN6) hr (sh1 N hN6) (pow6 hN6) (fun y8 y9 => ?_) (2 ^ N - 1) 0 (by omega) none none
              refine g_iload_n d_X7_fills_158 rfl ?_
              refine g_if_ne d_X7_fills_159 (fun c159 => ?_) (fun c159 => absurd c159 (by decide))
              refine g_iload_n d_X7_fills_166 rfl ?_
              refine g_iconst d_X7_fills_167 ik_2 ?_
              refine g_icmp_ne d_X7_fills_168 (fun c168 => ?_) (fun c168 => absurd c168 (by decide))
              refine g_iload_n d_X7_fills_176 rfl ?_
              refine g_if_ne d_X7_fills_177 (fun c177 => ?_) (fun c177 => ?_)
              · refine g_iload d_X7_fills_184 rfl ?_
                refine h_iret d_X7_fills_186 rfl ?_
                exact ⟨by first | rfl | exact absurd (e1.symm.trans c139) c177 | exact absurd (e1.trans c177) c139 | exact congrArg (fun v => some (Value.int v)) (e3.resolve_left (fun z => c139 z.1)).2.symm, _, _, rfl, hR.fr fr_thrown⟩
              · refine g_iconst d_X7_fills_180 ik_0 ?_
                refine g_goto d_X7_fills_181 ?_
                refine h_iret d_X7_fills_186 rfl ?_
                exact ⟨by first | rfl | exact absurd (e1.symm.trans c139) c177 | exact absurd (e1.trans c177) c139 | exact congrArg (fun v => some (Value.int v)) (e3.resolve_left (fun z => c139 z.1)).2.symm, _, _, rfl, hR.fr fr_thrown⟩
          · refine g_iconst d_X6_fills_142 ik_0 ?_
            refine g_goto d_X6_fills_143 ?_
            refine h_iret d_X6_fills_148 rfl ?_
            refine ⟨_, rfl, ?_⟩
            rw [← mu_15]
            refine MtH.of [some (.ref 360), some (.int (nI r)), some (.int 1), none, none, none, none, none, none, none] pl_X7 rfl rfl ?_
            refine g_aload_n d_X7_fills_0 rfl ?_
            refine g_iconst d_X7_fills_1 ik_0 ?_
            refine mm_putI d_X7_fills_2 fl_7_62 sp_M rfl ?_
            refine g_aload_n d_X7_fills_5 rfl ?_
            refine g_iload_n d_X7_fills_6 rfl ?_
            refine h_V1i d_X7_fills_7 cl_7_201 (m7_isMachine ((hs_j (by decide)).trans wM)) sp_M (by decide) rfl (Nat.le_of_ble_eq_true rfl) (by decide) ?_
            refine g_if_eq d_X7_fills_10 (fun c10 => ?_) (fun c10 => ?_)
            · exfalso
              simp only [b2i_eq0, b2i_ne0, Int32.lt_iff_toInt_lt, Int32.le_iff_toInt_le, t_0, t_1, t_2, t_3, t_4, t_5, t_6, t_7, t_8, t_9, t_10, t_11, t_12, t_20, t_24, t_40, t_50, t_60, t_99, t_110, t_255, t_999, t_999999, t_m1, er, gM, gN, eM, eN, eM1, eN1] at *
              omega
            · refine g_iload_n d_X7_fills_13 rfl ?_
              refine g_iconst d_X7_fills_14 ik_0 ?_
              refine g_iconst d_X7_fills_15 ik_2 ?_
              refine h_S3i d_X7_fills_16 cl_7_70 m7_in (Nat.le_of_ble_eq_true rfl) (by decide) ?_
              refine g_if_ne d_X7_fills_19 (fun c19 => ?_) (fun c19 => absurd c19 (by decide))
              refine g_iconst d_X7_fills_25 ik_0 ?_
              refine w_istore_n (L' := [_, _, _, _, _, _, _, _, _, _]) d_X7_fills_26 rfl rfl rfl ?_
              refine g_bipush d_X7_fills_27 bk_63 ?_
              refine w_istore (L' := [_, _, _, _, _, _, _, _, _, _]) d_X7_fills_29 rfl rfl rfl ?_
              refine g_iconst d_X7_fills_31 ik_0 ?_
              refine w_istore (L' := [_, _, _, _, _, _, _, _, _, _]) d_X7_fills_32 rfl rfl rfl ?_
              refine g_aload_n d_X7_fills_34 rfl ?_
              refine g_aload_n d_X7_fills_35 rfl ?_
              refine h_getR d_X7_fills_36 fl_7_31 sp_M rfl ?_
              refine g_iconst d_X7_fills_39 ik_2 ?_
              refine h_V2i d_X7_fills_40 cl_7_191 (m7_howAll ar_s (hS.2.1.th hM5 hN6) hN6 ((hs_j (by decide)).trans wN)) sp_M (by decide) rfl (Nat.le_of_ble_eq_true rfl) (by decide) ?_
              refine w_istore (L' := [_, _, _, _, _, _, _, _, _, _]) d_X7_fills_43 rfl rfl rfl ?_
              refine g_iconst d_X7_fills_45 ik_1 ?_
              refine w_istore (L' := [_, _, _, _, _, _, _, _, _, _]) d_X7_fills_46 rfl rfl rfl ?_
              refine lp_fills7 hI (hS.2.1.th hM5 hN6) hr (sh1 N hN6) (pow6 hN6) (fun y8 y9 => ?_) (2 ^ N - 1) 0 (by omega) none none
              refine g_iload_n d_X7_fills_158 rfl ?_
              refine g_if_ne d_X7_fills_159 (fun c159 => ?_) (fun c159 => absurd c159 (by decide))
              refine g_iload_n d_X7_fills_166 rfl ?_
              refine g_iconst d_X7_fills_167 ik_2 ?_
              refine g_icmp_ne d_X7_fills_168 (fun c168 => ?_) (fun c168 => absurd c168 (by decide))
              refine g_iload_n d_X7_fills_176 rfl ?_
              refine g_if_ne d_X7_fills_177 (fun c177 => ?_) (fun c177 => ?_)
              · refine g_iload d_X7_fills_184 rfl ?_
                refine h_iret d_X7_fills_186 rfl ?_
                exact ⟨by first | rfl | exact absurd (e1.symm.trans c139) c177 | exact absurd (e1.trans c177) c139 | exact congrArg (fun v => some (Value.int v)) (e3.resolve_left (fun z => c139 z.1)).2.symm, _, _, rfl, hR.fr fr_thrown⟩
              · refine g_iconst d_X7_fills_180 ik_0 ?_
                refine g_goto d_X7_fills_181 ?_
                refine h_iret d_X7_fills_186 rfl ?_
                exact ⟨by first | rfl | exact absurd (e1.symm.trans c139) c177 | exact absurd (e1.trans c177) c139 | exact congrArg (fun v => some (Value.int v)) (e3.resolve_left (fun z => c139 z.1)).2.symm, _, _, rfl, hR.fr fr_thrown⟩
        · refine g_iload d_X6_fills_149 rfl ?_
          refine h_iret d_X6_fills_151 rfl ?_
          refine ⟨_, rfl, ?_⟩
          rw [← mu_15]
          refine MtH.of [some (.ref 360), some (.int (nI r)), some (.int y), none, none, none, none, none, none, none] pl_X7 rfl rfl ?_
          refine g_aload_n d_X7_fills_0 rfl ?_
          refine g_iconst d_X7_fills_1 ik_0 ?_
          refine mm_putI d_X7_fills_2 fl_7_62 sp_M rfl ?_
          refine g_aload_n d_X7_fills_5 rfl ?_
          refine g_iload_n d_X7_fills_6 rfl ?_
          refine h_V1i d_X7_fills_7 cl_7_201 (m7_isMachine ((hs_j (by decide)).trans wM)) sp_M (by decide) rfl (Nat.le_of_ble_eq_true rfl) (by decide) ?_
          refine g_if_eq d_X7_fills_10 (fun c10 => ?_) (fun c10 => ?_)
          · exfalso
            simp only [b2i_eq0, b2i_ne0, Int32.lt_iff_toInt_lt, Int32.le_iff_toInt_le, t_0, t_1, t_2, t_3, t_4, t_5, t_6, t_7, t_8, t_9, t_10, t_11, t_12, t_20, t_24, t_40, t_50, t_60, t_99, t_110, t_255, t_999, t_999999, t_m1, er, gM, gN, eM, eN, eM1, eN1] at *
            omega
          · refine g_iload_n d_X7_fills_13 rfl ?_
            refine g_iconst d_X7_fills_14 ik_0 ?_
            refine g_iconst d_X7_fills_15 ik_2 ?_
            refine h_S3i d_X7_fills_16 cl_7_70 m7_in (Nat.le_of_ble_eq_true rfl) (by decide) ?_
            refine g_if_ne d_X7_fills_19 (fun c19 => ?_) (fun c19 => ?_)
            · refine g_iconst d_X7_fills_25 ik_0 ?_
              refine w_istore_n (L' := [_, _, _, _, _, _, _, _, _, _]) d_X7_fills_26 rfl rfl rfl ?_
              refine g_bipush d_X7_fills_27 bk_63 ?_
              refine w_istore (L' := [_, _, _, _, _, _, _, _, _, _]) d_X7_fills_29 rfl rfl rfl ?_
              refine g_iconst d_X7_fills_31 ik_0 ?_
              refine w_istore (L' := [_, _, _, _, _, _, _, _, _, _]) d_X7_fills_32 rfl rfl rfl ?_
              refine g_aload_n d_X7_fills_34 rfl ?_
              refine g_aload_n d_X7_fills_35 rfl ?_
              refine h_getR d_X7_fills_36 fl_7_31 sp_M rfl ?_
              refine g_iconst d_X7_fills_39 ik_2 ?_
              refine h_V2i d_X7_fills_40 cl_7_191 (m7_howAll ar_s (hS.2.1.th hM5 hN6) hN6 ((hs_j (by decide)).trans wN)) sp_M (by decide) rfl (Nat.le_of_ble_eq_true rfl) (by decide) ?_
              refine w_istore (L' := [_, _, _, _, _, _, _, _, _, _]) d_X7_fills_43 rfl rfl rfl ?_
              refine g_iconst d_X7_fills_45 ik_1 ?_
              refine w_istore (L' := [_, _, _, _, _, _, _, _, _, _]) d_X7_fills_46 rfl rfl rfl ?_
              refine lp_fills7 hI (hS.2.1.th hM5 hN6) hr (sh1 N hN6) (pow6 hN6) (fun y8 y9 => ?_) (2 ^ N - 1) 0 (by omega) none none
              refine g_iload_n d_X7_fills_158 rfl ?_
              refine g_if_ne d_X7_fills_159 (fun c159 => ?_) (fun c159 => ?_)
              · refine g_iload_n d_X7_fills_166 rfl ?_
                refine g_iconst d_X7_fills_167 ik_2 ?_
                refine g_icmp_ne d_X7_fills_168 (fun c168 => ?_) (fun c168 => ?_)
                · exfalso
                  have z0 : ¬ y.toInt = 0 := fun z => q0 (Int32.toInt_inj.mp (z.trans t_0.symm))
                  have z1 : ¬ y.toInt = 1 := fun z => q1 (Int32.toInt_inj.mp (z.trans t_1.symm))
                  have z2 : ¬ y.toInt = 2 := fun z => c168 (Int32.toInt_inj.mp (z.trans t_2.symm))
                  clear q0 q1 e1 e2 e3
                  simp only [b2i_eq0, b2i_ne0, Int32.lt_iff_toInt_lt, Int32.le_iff_toInt_le, t_0, t_1, t_2, t_3, t_4, t_5, t_6, t_7, t_8, t_9, t_10, t_11, t_12, t_20, t_24, t_40, t_50, t_60, t_99, t_110, t_255, t_999, t_999999, t_m1, er, gM, gN, eM, eN, eM1, eN1] at *
                  omega
                · refine g_iload d_X7_fills_171 rfl ?_
                  refine g_goto d_X7_fills_173 ?_
                  refine h_iret d_X7_fills_186 rfl ?_
                  exact ⟨by rw [e2], _, _, rfl, hR.fr fr_thrown⟩
              · exact absurd c159 q0
            · exfalso
              simp only [b2i_eq0, b2i_ne0, Int32.lt_iff_toInt_lt, Int32.le_iff_toInt_le, t_0, t_1, t_2, t_3, t_4, t_5, t_6, t_7, t_8, t_9, t_10, t_11, t_12, t_20, t_24, t_40, t_50, t_60, t_99, t_110, t_255, t_999, t_999999, t_m1, er, gM, gN, eM, eN, eM1, eN1] at *
              omega
      · refine g_ldc d_X6_fills_20 kc_X6_66 ?_
        refine h_iret d_X6_fills_22 rfl ?_
        refine ⟨_, rfl, ?_⟩
        rw [← mu_15]
        refine MtH.of [some (.ref 360), some (.int x), some (.int y), none, none, none, none, none, none, none] pl_X7 rfl rfl ?_
        refine g_aload_n d_X7_fills_0 rfl ?_
        refine g_iconst d_X7_fills_1 ik_0 ?_
        refine mm_putI d_X7_fills_2 fl_7_62 sp_M rfl ?_
        refine g_aload_n d_X7_fills_5 rfl ?_
        refine g_iload_n d_X7_fills_6 rfl ?_
        refine h_V1i d_X7_fills_7 cl_7_201 (m7_isMachine ((hs_j (by decide)).trans wM)) sp_M (by decide) rfl (Nat.le_of_ble_eq_true rfl) (by decide) ?_
        refine g_if_eq d_X7_fills_10 (fun c10 => ?_) (fun c10 => ?_)
        · refine g_ldc d_X7_fills_22 kc_X7_78 ?_
          refine h_iret d_X7_fills_24 rfl ?_
          exact ⟨rfl, _, _, rfl, hR.fr fr_thrown⟩
        · refine g_iload_n d_X7_fills_13 rfl ?_
          refine g_iconst d_X7_fills_14 ik_0 ?_
          refine g_iconst d_X7_fills_15 ik_2 ?_
          refine h_S3i d_X7_fills_16 cl_7_70 m7_in (Nat.le_of_ble_eq_true rfl) (by decide) ?_
          refine g_if_ne d_X7_fills_19 (fun c19 => ?_) (fun c19 => ?_)
          · exfalso
            simp only [b2i_eq0, b2i_ne0, Int32.lt_iff_toInt_lt, Int32.le_iff_toInt_le, t_0, t_1, t_2, t_3, t_4, t_5, t_6, t_7, t_8, t_9, t_10, t_11, t_12, t_20, t_24, t_40, t_50, t_60, t_99, t_110, t_255, t_999, t_999999, t_m1, gM, gN, eM, eN, eM1, eN1] at *
            omega
          · refine g_ldc d_X7_fills_22 kc_X7_78 ?_
            refine h_iret d_X7_fills_24 rfl ?_
            exact ⟨rfl, _, _, rfl, hR.fr fr_thrown⟩
