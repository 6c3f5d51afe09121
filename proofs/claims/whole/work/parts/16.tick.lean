/-! a tick -/
theorem outS_j {g : Hv} {k l x y : Nat} (h4 : x ≠ 4) (h5 : x ≠ 5) (h6 : x ≠ 6) (h9 : x ≠ 9) (h10 : x ≠ 10) : outS g k l x y = g x y := by
  unfold outS
  rw [hs_j h6, hs_j h5, hs_j h4]
  split
  · rw [hs_j h9]
  · rw [hs_j h10, hs_j h9]
theorem outS_4 {g : Hv} {k l y : Nat} (hy : y ≠ k) : outS g k l 4 y = g 4 y := by
  unfold outS
  rw [hs_j (by decide), hs_j (by decide), hs_b hy]
  split
  · rw [hs_j (by decide)]
  · rw [hs_j (by decide), hs_j (by decide)]
theorem putS_j {g : Hv} {k l x y : Nat} (h4 : x ≠ 4) (h5 : x ≠ 5) (h9 : x ≠ 9) : putS g k l x y = g x y := by
  unfold putS
  rw [hs_j h5, hs_j h9, hs_j h4]
theorem putS_4 {g : Hv} {k l y : Nat} (hy : y ≠ k) : putS g k l 4 y = g 4 y := by
  unfold putS
  rw [hs_j (by decide), hs_j (by decide), hs_b hy]
theorem tk1_no {g : Hv} {j : Nat} (h : (tk1 g j).1 4 j = -1) : tk1 g (j + 1) = tk1 g j := if_pos h
theorem tk1_left {g : Hv} {j : Nat} (h : ¬ (tk1 g j).1 4 j = -1) (h2 : 0 < (tk1 g j).1 5 j - 1) : tk1 g (j + 1) = (hset (tk1 g j).1 5 j ((tk1 g j).1 5 j - 1), (tk1 g j).2 + 1) := (if_neg h).trans (if_pos h2)
theorem tk1_out {g : Hv} {j : Nat} (h : ¬ (tk1 g j).1 4 j = -1) (h2 : ¬ 0 < (tk1 g j).1 5 j - 1) : tk1 g (j + 1) = (outS (hset (tk1 g j).1 5 j ((tk1 g j).1 5 j - 1)) j ((tk1 g j).1 4 j).toNatClampNeg, (tk1 g j).2) := (if_neg h).trans (if_neg h2)
theorem tk1_j {g : Hv} {x y : Nat} (h4 : x ≠ 4) (h5 : x ≠ 5) (h6 : x ≠ 6) (h9 : x ≠ 9) (h10 : x ≠ 10) : ∀ j, (tk1 g j).1 x y = g x y
  | 0 => rfl
  | j + 1 => by
    by_cases h : (tk1 g j).1 4 j = -1
    · rw [tk1_no h]
      exact tk1_j h4 h5 h6 h9 h10 j
    · by_cases h2 : 0 < (tk1 g j).1 5 j - 1
      · rw [tk1_left h h2]
        exact (hs_j h5).trans (tk1_j h4 h5 h6 h9 h10 j)
      · rw [tk1_out h h2]
        exact (outS_j h4 h5 h6 h9 h10).trans ((hs_j h5).trans (tk1_j h4 h5 h6 h9 h10 j))
theorem tk1_4 {g : Hv} : ∀ (j y : Nat), j ≤ y → (tk1 g j).1 4 y = g 4 y
  | 0, _, _ => rfl
  | j + 1, y, hy => by
    by_cases h : (tk1 g j).1 4 j = -1
    · rw [tk1_no h]
      exact tk1_4 j y (by omega)
    · by_cases h2 : 0 < (tk1 g j).1 5 j - 1
      · rw [tk1_left h h2]
        dsimp only
        rw [hs_j (by decide)]
        exact tk1_4 j y (by omega)
      · rw [tk1_out h h2]
        dsimp only
        rw [outS_4 (by omega), hs_j (by decide)]
        exact tk1_4 j y (by omega)
def tk2c (g : Hv) (b : Int32) (N j : Nat) : Prop := ¬ g 0 0 ≤ (tk2 g b N j).2 ∧ (tk2 g b N j).1 4 j = -1 ∧ g 0 4 >>> (nI j &&& 31) &&& 1 = 1
theorem tk2_no {g : Hv} {b : Int32} {N j : Nat} (h : ¬ tk2c g b N j) : tk2 g b N (j + 1) = tk2 g b N j := if_neg h
theorem tk2_none {g : Hv} {b : Int32} {N j : Nat} (hw : waitF (tk2 g b N j).1 (wantS g j) (g 2 j) N 0 = none) : tk2 g b N (j + 1) = tk2 g b N j := by
  rw [tk2, hw]
  split <;> rfl
theorem tk2_some {g : Hv} {b : Int32} {N j l : Nat} (h : tk2c g b N j) (hw : waitF (tk2 g b N j).1 (wantS g j) (g 2 j) N 0 = some l) : tk2 g b N (j + 1) = (putS (tk2 g b N j).1 j l, (tk2 g b N j).2 + 1) := by
  rw [tk2, hw]
  exact if_pos h
theorem tk2_cases (g : Hv) (b : Int32) (N j : Nat) : tk2 g b N (j + 1) = tk2 g b N j ∨ ∃ l, tk2c g b N j ∧ waitF (tk2 g b N j).1 (wantS g j) (g 2 j) N 0 = some l ∧ tk2 g b N (j + 1) = (putS (tk2 g b N j).1 j l, (tk2 g b N j).2 + 1) := by
  by_cases h : tk2c g b N j
  · cases hw : waitF (tk2 g b N j).1 (wantS g j) (g 2 j) N 0 with
    | none => exact Or.inl (tk2_none hw)
    | some l => exact Or.inr ⟨l, h, rfl, tk2_some h hw⟩
  · exact Or.inl (tk2_no h)
theorem tk2_j {g : Hv} {b : Int32} {N x y : Nat} (h4 : x ≠ 4) (h5 : x ≠ 5) (h9 : x ≠ 9) : ∀ j, (tk2 g b N j).1 x y = g x y
  | 0 => rfl
  | j + 1 => by
    rcases tk2_cases g b N j with h | ⟨l, -, -, h⟩
    · rw [h]
      exact tk2_j h4 h5 h9 j
    · rw [h]
      exact (putS_j h4 h5 h9).trans (tk2_j h4 h5 h9 j)
theorem tk2_4 {g : Hv} {b : Int32} {N : Nat} : ∀ (j y : Nat), j ≤ y → (tk2 g b N j).1 4 y = g 4 y
  | 0, _, _ => rfl
  | j + 1, y, hy => by
    rcases tk2_cases g b N j with h | ⟨l, -, -, h⟩
    · rw [h]
      exact tk2_4 j y (by omega)
    · rw [h]
      exact (putS_4 (by omega)).trans (tk2_4 j y (by omega))
theorem tk2_stop {g : Hv} {b : Int32} {N j : Nat} (h : g 0 0 ≤ (tk2 g b N j).2) : ∀ n, tk2 g b N (j + n) = tk2 g b N j
  | 0 => rfl
  | n + 1 => by
    have ih := tk2_stop h n
    rw [show j + (n + 1) = (j + n) + 1 by omega, tk2_no (fun q => q.1 (by rw [ih]; exact h)), ih]
theorem oI_ne {x : Option Nat} (h : ¬ oI x = -1) : ∃ l, x = some l := by
  cases x with
  | none => exact absurd rfl h
  | some l => exact ⟨l, rfl⟩
theorem nI_ne_m1 {l : Nat} (h : l < 2 ^ 31) : ¬ nI l = -1 := fun e => nI_pos h (by rw [e]; decide)
theorem oI_eq {x : Option Nat} (hx : ∀ l, x = some l → l < 6) (h : oI x = -1) : x = none := by
  cases x with
  | none => rfl
  | some l => exact absurd h (nI_ne_m1 (by have := hx l rfl; omega))
theorem waitF_lt {g : Hv} {w rm : Int32} {N : Nat} (hR : RK g N) : ∀ (n j : Nat), j + n = N → ∀ l, waitF g w rm n j = some l → l < 6
  | 0, _, _, _, h => by cases h
  | n + 1, j, hj, l, h => by
    rw [waitF] at h
    split at h
    · cases h
      obtain ⟨q, hq, e⟩ := hR j (by omega)
      rw [e, nI_clamp (by omega)]
      exact hq
    · exact waitF_lt hR n (j + 1) (by omega) l h
theorem lp_tk1 {o : Nat} {h g : Hv} (ho : isHall o) {M : Nat} (hM : g 0 2 = nI M) (hM5 : M ≤ 5) (hH : HH g M) (y : Option Value) {P : Option Value → Hv → Prop} (kx : GdH M_X2_passTick 3 58 [some (.ref o), some (.int (tk1 g M).2), some (.int (nI M)), y] [] (pu h o (tk1 g M).1) P) : ∀ (n j : Nat), j + n = M → GdH M_X2_passTick 3 4 [some (.ref o), some (.int (tk1 g j).2), some (.int (nI j)), y] [] (pu h o (tk1 g j).1) P := by
  intro n
  induction n with
  | zero =>
    intro j hj
    have hj' : j = M := by omega
    rw [hj']
    refine g_iload_n d_X2_passTick_4 rfl ?_
    refine g_aload_n d_X2_passTick_5 rfl ?_
    refine hh_getV (v := nI M) d_X2_passTick_6 fl_2_52 ho (by decide) ((tk1_j (by decide) (by decide) (by decide) (by decide) (by decide) _).trans hM) ?_
    refine g_icmp_ge d_X2_passTick_9 (fun c9 => ?_) (fun c9 => absurd (nI_le (Nat.le_refl _) (by omega)) c9)
    exact kx
  | succ n ih =>
    intro j hj
    refine g_iload_n d_X2_passTick_4 rfl ?_
    refine g_aload_n d_X2_passTick_5 rfl ?_
    refine hh_getV (v := nI M) d_X2_passTick_6 fl_2_52 ho (by decide) ((tk1_j (by decide) (by decide) (by decide) (by decide) (by decide) _).trans hM) ?_
    refine g_icmp_ge d_X2_passTick_9 (fun c9 => absurd c9 (nI_ge (by omega) (by omega))) (fun c9 => ?_)
    refine g_aload_n d_X2_passTick_12 rfl ?_
    refine h_getR d_X2_passTick_13 fl_2_21 (sp_hall ho) rfl ?_
    refine g_iload_n d_X2_passTick_16 rfl ?_
    refine hh_aldE (k := j) d_X2_passTick_17 (sp_h4 ho) (by decide) rfl (by omega) (by decide) ?_
    refine g_iconst d_X2_passTick_18 ik_m1 ?_
    refine g_icmp_eq d_X2_passTick_19 (fun c19 => ?_) (fun c19 => ?_)
    · refine w_iinc (L' := [_, _, _, _]) d_X2_passTick_52 ik_1 rfl rfl rfl rfl ?_
      refine g_goto d_X2_passTick_55 ?_
      have q := ih (j + 1) (by omega)
      first | rw [tk1_no c19] at q | rw [tk1_left c19 (by rw [hs_at] at c38; exact c38)] at q | rw [tk1_out c19 (by rw [hs_at] at c38; exact c38), hl2] at q
      rw [nI_1]
      exact q
    · refine g_aload_n d_X2_passTick_22 rfl ?_
      refine h_getR d_X2_passTick_23 fl_2_24 (sp_hall ho) rfl ?_
      refine g_iload_n d_X2_passTick_26 rfl ?_
      refine g_dup2 d_X2_passTick_27 rfl rfl ?_
      refine hh_aldE (k := j) d_X2_passTick_28 (sp_h5 ho) (by decide) rfl (by omega) (by decide) ?_
      refine g_iconst d_X2_passTick_29 ik_1 ?_
      refine g_isub d_X2_passTick_30 ?_
      refine hh_astE (k := j) d_X2_passTick_31 (sp_h5 ho) (by decide) rfl (by omega) (by decide) ?_
      refine g_aload_n d_X2_passTick_32 rfl ?_
      refine h_getR d_X2_passTick_33 fl_2_24 (sp_hall ho) rfl ?_
      refine g_iload_n d_X2_passTick_36 rfl ?_
      refine hh_aldE (k := j) d_X2_passTick_37 (sp_h5 ho) (by decide) rfl (by omega) (by decide) ?_
      refine g_if_gt d_X2_passTick_38 (fun c38 => ?_) (fun c38 => ?_)
      · refine w_iinc (L' := [_, _, _, _]) d_X2_passTick_49 ik_1 rfl rfl rfl rfl ?_
        refine w_iinc (L' := [_, _, _, _]) d_X2_passTick_52 ik_1 rfl rfl rfl rfl ?_
        refine g_goto d_X2_passTick_55 ?_
        have q := ih (j + 1) (by omega)
        first | rw [tk1_no c19] at q | rw [tk1_left c19 (by rw [hs_at] at c38; exact c38)] at q | rw [tk1_out c19 (by rw [hs_at] at c38; exact c38), hl2] at q
        rw [nI_1]
        exact q
      · obtain ⟨l, hl6, hl⟩ : ∃ l, l < 6 ∧ (tk1 g j).1 4 j = nI l := by
          rcases hH j (by omega) with e | e
          · exact absurd ((tk1_4 j j (Nat.le_refl j)).trans e) c19
          · rw [tk1_4 j j (Nat.le_refl j)]; exact e
        have hl2 : ((tk1 g j).1 4 j).toNatClampNeg = l := by rw [hl]; exact nI_clamp (by omega)
        refine g_aload_n d_X2_passTick_41 rfl ?_
        refine g_iload_n d_X2_passTick_42 rfl ?_
        refine h_V1v d_X2_passTick_43 cl_2_77 (m_takeOut ho rfl (by omega) ((hs_j (by decide)).trans hl) hl6) (sp_hall ho) (by decide) rfl (Nat.le_of_ble_eq_true rfl) (by decide) ?_
        refine g_goto d_X2_passTick_46 ?_
        refine w_iinc (L' := [_, _, _, _]) d_X2_passTick_52 ik_1 rfl rfl rfl rfl ?_
        refine g_goto d_X2_passTick_55 ?_
        have q := ih (j + 1) (by omega)
        first | rw [tk1_no c19] at q | rw [tk1_left c19 (by rw [hs_at] at c38; exact c38)] at q | rw [tk1_out c19 (by rw [hs_at] at c38; exact c38), hl2] at q
        rw [nI_1]
        exact q
theorem lp_tk2 {o : Nat} {h g : Hv} (ho : isHall o) {M : Nat} (hM : g 0 2 = nI M) (hM5 : M ≤ 5) {N : Nat} (hN : g 0 3 = nI N) (hN6 : N ≤ 6) (hR : RK g N) {b : Int32} {P : Option Value → Hv → Prop} (kx : ∀ (a c : Int32) (y : Option Value), GdH M_X2_passTick 3 120 [some (.ref o), some (.int a), some (.int c), y] [] (pu h o (tk2 g b N M).1) P) : ∀ (n j : Nat), j + n = M → ∀ (y : Option Value), GdH M_X2_passTick 3 60 [some (.ref o), some (.int (tk2 g b N j).2), some (.int (nI j)), y] [] (pu h o (tk2 g b N j).1) P := by
  intro n
  induction n with
  | zero =>
    intro j hj y
    have hj' : j = M := by omega
    rw [hj']
    refine g_iload_n d_X2_passTick_60 rfl ?_
    refine g_aload_n d_X2_passTick_61 rfl ?_
    refine hh_getV (v := nI M) d_X2_passTick_62 fl_2_52 ho (by decide) ((tk2_j (by decide) (by decide) (by decide) _).trans hM) ?_
    refine g_icmp_ge d_X2_passTick_65 (fun c65 => ?_) (fun c65 => absurd (nI_le (Nat.le_refl _) (by omega)) c65)
    exact kx _ _ _
  | succ n ih =>
    intro j hj y
    have hR2 : RK (tk2 g b N j).1 N := fun i hi => by
      rw [tk2_j (by decide) (by decide) (by decide)]
      exact hR i hi
    have hw0 : wantS (tk2 g b N j).1 j = wantS g j := by
      unfold wantS
      rw [tk2_j (by decide) (by decide) (by decide)]
    have hr0 : (tk2 g b N j).1 2 j = g 2 j := tk2_j (by decide) (by decide) (by decide) j
    have hN2 : (tk2 g b N j).1 0 3 = nI N := (tk2_j (by decide) (by decide) (by decide) j).trans hN
    refine g_iload_n d_X2_passTick_60 rfl ?_
    refine g_aload_n d_X2_passTick_61 rfl ?_
    refine hh_getV (v := nI M) d_X2_passTick_62 fl_2_52 ho (by decide) ((tk2_j (by decide) (by decide) (by decide) _).trans hM) ?_
    refine g_icmp_ge d_X2_passTick_65 (fun c65 => absurd c65 (nI_ge (by omega) (by omega))) (fun c65 => ?_)
    refine g_iload_n d_X2_passTick_68 rfl ?_
    refine g_aload_n d_X2_passTick_69 rfl ?_
    refine hh_getV (v := g 0 0) d_X2_passTick_70 fl_2_45 ho (by decide) (tk2_j (by decide) (by decide) (by decide) _) ?_
    refine g_icmp_ge d_X2_passTick_73 (fun c73 => ?_) (fun c73 => ?_)
    · have e := tk2_stop c73 (M - j)
      rw [show j + (M - j) = M by omega] at e
      rw [← e]
      exact kx _ _ _
    · refine g_aload_n d_X2_passTick_76 rfl ?_
      refine h_getR d_X2_passTick_77 fl_2_21 (sp_hall ho) rfl ?_
      refine g_iload_n d_X2_passTick_80 rfl ?_
      refine hh_aldE (k := j) d_X2_passTick_81 (sp_h4 ho) (by decide) rfl (by omega) (by decide) ?_
      refine g_iconst d_X2_passTick_82 ik_m1 ?_
      refine g_icmp_ne d_X2_passTick_83 (fun c83 => ?_) (fun c83 => ?_)
      · refine w_iinc (L' := [_, _, _, _]) d_X2_passTick_114 ik_1 rfl rfl rfl rfl ?_
        refine g_goto d_X2_passTick_117 ?_
        rw [nI_1]
        first | (have q := ih (j + 1) (by omega) y; rw [tk2_no (fun z => c83 z.2.1)] at q; exact q) | (have q := ih (j + 1) (by omega) y; rw [tk2_no (fun z => b2i_eq0.mp c91 (by rw [tk2_j (by decide) (by decide) (by decide)]; exact z.2.2))] at q; exact q) | (have q := ih (j + 1) (by omega) (some (.int (oI (waitF (tk2 g b N j).1 (wantS (tk2 g b N j).1 j) ((tk2 g b N j).1 2 j) N 0)))); rw [tk2_none (by rw [← hw0, ← hr0]; exact oI_eq (waitF_lt hR2 N 0 (by omega)) c102)] at q; exact q) | (have q := ih (j + 1) (by omega) (some (.int (oI (waitF (tk2 g b N j).1 (wantS (tk2 g b N j).1 j) ((tk2 g b N j).1 2 j) N 0)))); rw [tk2_some ⟨c73, c83, by have z := b2i_ne0.mp c91; rw [tk2_j (by decide) (by decide) (by decide)] at z; exact z⟩ (by rw [← hw0, ← hr0]; exact hw)] at q; exact q)
      · refine g_aload_n d_X2_passTick_86 rfl ?_
        refine g_iload_n d_X2_passTick_87 rfl ?_
        refine h_V1i d_X2_passTick_88 cl_2_81 (m_isOpen ho) (sp_hall ho) (by decide) rfl (Nat.le_of_ble_eq_true rfl) (by decide) ?_
        refine g_if_eq d_X2_passTick_91 (fun c91 => ?_) (fun c91 => ?_)
        · refine w_iinc (L' := [_, _, _, _]) d_X2_passTick_114 ik_1 rfl rfl rfl rfl ?_
          refine g_goto d_X2_passTick_117 ?_
          rw [nI_1]
          first | (have q := ih (j + 1) (by omega) y; rw [tk2_no (fun z => c83 z.2.1)] at q; exact q) | (have q := ih (j + 1) (by omega) y; rw [tk2_no (fun z => b2i_eq0.mp c91 (by rw [tk2_j (by decide) (by decide) (by decide)]; exact z.2.2))] at q; exact q) | (have q := ih (j + 1) (by omega) (some (.int (oI (waitF (tk2 g b N j).1 (wantS (tk2 g b N j).1 j) ((tk2 g b N j).1 2 j) N 0)))); rw [tk2_none (by rw [← hw0, ← hr0]; exact oI_eq (waitF_lt hR2 N 0 (by omega)) c102)] at q; exact q) | (have q := ih (j + 1) (by omega) (some (.int (oI (waitF (tk2 g b N j).1 (wantS (tk2 g b N j).1 j) ((tk2 g b N j).1 2 j) N 0)))); rw [tk2_some ⟨c73, c83, by have z := b2i_ne0.mp c91; rw [tk2_j (by decide) (by decide) (by decide)] at z; exact z⟩ (by rw [← hw0, ← hr0]; exact hw)] at q; exact q)
        · refine g_aload_n d_X2_passTick_94 rfl ?_
          refine g_iload_n d_X2_passTick_95 rfl ?_
          refine h_V1i d_X2_passTick_96 cl_2_85 (m_waitingFor ho hN2 hN6 hR2 rfl (by omega)) (sp_hall ho) (by decide) rfl (Nat.le_of_ble_eq_true rfl) (by decide) ?_
          refine w_istore_n (L' := [_, _, _, _]) d_X2_passTick_99 rfl rfl rfl ?_
          refine g_iload_n d_X2_passTick_100 rfl ?_
          refine g_iconst d_X2_passTick_101 ik_m1 ?_
          refine g_icmp_eq d_X2_passTick_102 (fun c102 => ?_) (fun c102 => ?_)
          · refine w_iinc (L' := [_, _, _, _]) d_X2_passTick_114 ik_1 rfl rfl rfl rfl ?_
            refine g_goto d_X2_passTick_117 ?_
            rw [nI_1]
            first | (have q := ih (j + 1) (by omega) y; rw [tk2_no (fun z => c83 z.2.1)] at q; exact q) | (have q := ih (j + 1) (by omega) y; rw [tk2_no (fun z => b2i_eq0.mp c91 (by rw [tk2_j (by decide) (by decide) (by decide)]; exact z.2.2))] at q; exact q) | (have q := ih (j + 1) (by omega) (some (.int (oI (waitF (tk2 g b N j).1 (wantS (tk2 g b N j).1 j) ((tk2 g b N j).1 2 j) N 0)))); rw [tk2_none (by rw [← hw0, ← hr0]; exact oI_eq (waitF_lt hR2 N 0 (by omega)) c102)] at q; exact q) | (have q := ih (j + 1) (by omega) (some (.int (oI (waitF (tk2 g b N j).1 (wantS (tk2 g b N j).1 j) ((tk2 g b N j).1 2 j) N 0)))); rw [tk2_some ⟨c73, c83, by have z := b2i_ne0.mp c91; rw [tk2_j (by decide) (by decide) (by decide)] at z; exact z⟩ (by rw [← hw0, ← hr0]; exact hw)] at q; exact q)
          · obtain ⟨l, hw⟩ := oI_ne c102
            have hl6 := waitF_lt hR2 N 0 (by omega) l hw
            refine g_aload_n d_X2_passTick_105 rfl ?_
            refine g_iload_n d_X2_passTick_106 rfl ?_
            refine g_iload_n d_X2_passTick_107 rfl ?_
            refine h_V2v d_X2_passTick_108 cl_2_89 (m_putIn ho rfl (by omega) (show oI (waitF (tk2 g b N j).1 (wantS (tk2 g b N j).1 j) ((tk2 g b N j).1 2 j) N 0) = nI l by rw [hw]; rfl) hl6) (sp_hall ho) (by decide) rfl (Nat.le_of_ble_eq_true rfl) (by decide) ?_
            refine w_iinc (L' := [_, _, _, _]) d_X2_passTick_111 ik_1 rfl rfl rfl rfl ?_
            refine w_iinc (L' := [_, _, _, _]) d_X2_passTick_114 ik_1 rfl rfl rfl rfl ?_
            refine g_goto d_X2_passTick_117 ?_
            rw [nI_1]
            first | (have q := ih (j + 1) (by omega) y; rw [tk2_no (fun z => c83 z.2.1)] at q; exact q) | (have q := ih (j + 1) (by omega) y; rw [tk2_no (fun z => b2i_eq0.mp c91 (by rw [tk2_j (by decide) (by decide) (by decide)]; exact z.2.2))] at q; exact q) | (have q := ih (j + 1) (by omega) (some (.int (oI (waitF (tk2 g b N j).1 (wantS (tk2 g b N j).1 j) ((tk2 g b N j).1 2 j) N 0)))); rw [tk2_none (by rw [← hw0, ← hr0]; exact oI_eq (waitF_lt hR2 N 0 (by omega)) c102)] at q; exact q) | (have q := ih (j + 1) (by omega) (some (.int (oI (waitF (tk2 g b N j).1 (wantS (tk2 g b N j).1 j) ((tk2 g b N j).1 2 j) N 0)))); rw [tk2_some ⟨c73, c83, by have z := b2i_ne0.mp c91; rw [tk2_j (by decide) (by decide) (by decide)] at z; exact z⟩ (by rw [← hw0, ← hr0]; exact hw)] at q; exact q)
theorem m_passTick {o : Nat} {h g : Hv} (ho : isHall o) {M : Nat} (hM : g 0 2 = nI M) (hM5 : M ≤ 5) {N : Nat} (hN : g 0 3 = nI N) (hN6 : N ≤ 6) (hR : RK g N) (hH : HH g M) : MtF M_X2_passTick 3 [.ref o] (pu h o g) (none) (pu h o (tickS g M N)) := by
  refine MtF.of [some (.ref o), none, none, none] pl_X2 rfl rfl ?_
  refine g_iconst d_X2_passTick_0 ik_0 ?_
  refine w_istore_n (L' := [_, _, _, _]) d_X2_passTick_1 rfl rfl rfl ?_
  refine g_iconst d_X2_passTick_2 ik_0 ?_
  refine w_istore_n (L' := [_, _, _, _]) d_X2_passTick_3 rfl rfl rfl ?_
  refine lp_tk1 ho hM hM5 hH none ?_ M 0 (by omega)
  refine g_iconst d_X2_passTick_58 ik_0 ?_
  refine w_istore_n (L' := [_, _, _, _]) d_X2_passTick_59 rfl rfl rfl ?_
  refine lp_tk2 ho ((tk1_j (by decide) (by decide) (by decide) (by decide) (by decide) M).trans hM) hM5 ((tk1_j (by decide) (by decide) (by decide) (by decide) (by decide) M).trans hN) hN6 (fun i hi => by rw [tk1_j (by decide) (by decide) (by decide) (by decide) (by decide)]; exact hR i hi) (fun a c y => ?_) M 0 (by omega) none
  refine g_aload_n d_X2_passTick_120 rfl ?_
  refine g_dup d_X2_passTick_121 rfl ?_
  refine hh_getI d_X2_passTick_122 fl_2_49 ho (by decide) ?_
  refine g_iconst d_X2_passTick_125 ik_1 ?_
  refine g_iadd d_X2_passTick_126 ?_
  refine hh_putI d_X2_passTick_127 fl_2_49 ho (by decide) ?_
  refine h_vret d_X2_passTick_130 rfl ?_
  exact pF rfl rfl
