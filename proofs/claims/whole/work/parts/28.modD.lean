/-! the reference's tick whole, what it foretells, what it answers -/
theorem m7_ticksOne {h w g : Hv} {M N ja jb A a : Nat} (hA : AR A ja 17) (ha : AR a jb 42) (hJ : JJ ja jb) (hR : RepM M N g w ja jb) (hI : HI M N g) : MtH M_X7_ticksOne 2 [.ref 360, .ref A, .ref a] (mu h w) (PO h w ja jb M N (tickS g M N) (dr1 g M)) := by
  have hM5 := hI.hM5
  have hN6 := hI.hN6
  refine MtH.of [some (.ref 360), some (.ref A), some (.ref a), none, none, none] pl_X7 rfl rfl ?_
  refine g_iconst d_X7_ticksOne_0 ik_0 ?_
  refine w_istore_n (L' := [_, _, _, _, _, _]) d_X7_ticksOne_1 rfl rfl rfl ?_
  refine lp_tickA hA ha hJ hI (w := w) ?_ M 0 (by omega) w hR FrM.rf (by rw [dr1, Int32.add_zero])
  intro w1 hr1 hf1 hd1
  have hI1 := hI.tk1 M (Nat.le_refl M)
  refine g_iconst d_X7_ticksOne_30 ik_0 ?_
  refine w_istore_n (L' := [_, _, _, _, _, _]) d_X7_ticksOne_31 rfl rfl rfl ?_
  refine g_iconst d_X7_ticksOne_32 ik_0 ?_
  refine w_istore (L' := [_, _, _, _, _, _]) d_X7_ticksOne_33 rfl rfl rfl ?_
  refine lp_tickB hA ha hJ hI1 hr1 ?_ M 0 (by omega)
  refine g_iconst d_X7_ticksOne_66 ik_0 ?_
  refine w_istore (L' := [_, _, _, _, _, _]) d_X7_ticksOne_67 rfl rfl rfl ?_
  rw [← tk1_bz hI M (Nat.le_refl M)]
  refine lp_tickC hA ha hJ hI1 (w := w) (c := dr1 g M) ?_ M 0 (by omega) w1 _ hr1 hf1 hd1
  intro w2 y hr2 hf2 hd2
  refine g_aload_n d_X7_ticksOne_168 rfl ?_
  refine g_iconst d_X7_ticksOne_169 ik_0 ?_
  refine g_dup2 d_X7_ticksOne_170 rfl rfl ?_
  refine mm_aldE (k := 0) d_X7_ticksOne_171 ha.1 ha.2.1 ha.2.2 rfl (by omega) (by decide) ?_
  refine g_iconst d_X7_ticksOne_172 ik_1 ?_
  refine g_iadd d_X7_ticksOne_173 ?_
  refine mm_astE (k := 0) d_X7_ticksOne_174 ha.1 ha.2.1 ha.2.2 rfl (by omega) (by decide) ?_
  refine h_vret d_X7_ticksOne_175 rfl ?_
  exact ⟨rfl, _, rfl, by rw [tickS, show (tk2 (tk1 g M).1 (tk1 g M).2 N M).1 0 1 = w2 jb 0 from hr2.1.2.1]; exact rep_01 hr2 hJ hM5 hN6, hf2.set, by rw [hs_j (by unfold JJ at hJ; omega)]; exact hd2⟩
def drN (M N : Nat) : Nat → Hv → Int32
  | 0, _ => 0
  | n + 1, g => dr1 g M + drN M N n (tickS g M N)
theorem lp_foretells {h : Hv} {M N n : Nat} (hn : n < 2 ^ 30) : ∀ (m j : Nat), j + m = n → ∀ (w g : Hv), RepM M N g w 9 10 → HI M N g → GdH M_X7_foretells 3 2 [some (.ref 360), some (.int (nI n)), some (.int (nI j))] [] (mu h w) (PO h w 9 10 M N (tickN M N m g) (drN M N m g)) := by
  intro m
  induction m with
  | zero =>
    intro j hj w g hR hI
    refine g_iload_n d_X7_foretells_2 rfl ?_
    refine g_iload_n d_X7_foretells_3 rfl ?_
    refine g_icmp_ge d_X7_foretells_4 (fun c4 => ?_) (fun c4 => absurd (nI_le (a := n) (b := j) (by omega) (by omega)) c4)
    refine h_vret d_X7_foretells_25 rfl ?_
    exact ⟨rfl, w, rfl, hR, FrM.rf, (Int32.add_zero _).symm⟩
  | succ m ih =>
    intro j hj w g hR hI
    refine g_iload_n d_X7_foretells_2 rfl ?_
    refine g_iload_n d_X7_foretells_3 rfl ?_
    refine g_icmp_ge d_X7_foretells_4 (fun c4 => absurd c4 (nI_ge (a := j) (b := n) (by omega) (by omega))) (fun c4 => ?_)
    refine g_aload_n d_X7_foretells_7 rfl ?_
    refine g_aload_n d_X7_foretells_8 rfl ?_
    refine h_getR d_X7_foretells_9 fl_7_34 sp_M rfl ?_
    refine g_aload_n d_X7_foretells_12 rfl ?_
    refine h_getR d_X7_foretells_13 fl_7_37 sp_M rfl ?_
    refine h_V2P d_X7_foretells_16 cl_7_174 (m7_ticksOne ar_e ar_w (Or.inr ⟨rfl, rfl⟩) hR hI) sp_M (by decide) rfl (Nat.le_of_ble_eq_true rfl) (by decide) ?_
    intro v' h' hp
    obtain ⟨rfl, w2, rfl, hr2, hf2, hd2⟩ := hp
    refine w_iinc (L' := [_, _, _]) d_X7_foretells_19 ik_1 rfl rfl rfl rfl ?_
    refine g_goto d_X7_foretells_22 ?_
    rw [nI_1]
    refine h_weaken (ih (j + 1) (by omega) w2 _ hr2 hI.tickS) ?_
    intro v' h' hq
    obtain ⟨rfl, w3, rfl, hr3, hf3, hd3⟩ := hq
    exact ⟨rfl, w3, rfl, hr3, hf2.tr hf3, by rw [hd3, hd2, drN, Int32.add_assoc]⟩
theorem m7_foretells {h w g : Hv} {M N : Nat} (hR : RepM M N g w 9 10) (hI : HI M N g) {z : Int32} {n : Nat} (ez : z = nI n) (hn : n < 2 ^ 30) : MtH M_X7_foretells 3 [.ref 360, .int z] (mu h w) (PO h w 9 10 M N (tickN M N n g) (drN M N n g)) := by
  subst ez
  refine MtH.of [some (.ref 360), some (.int (nI n)), none] pl_X7 rfl rfl ?_
  refine g_iconst d_X7_foretells_0 ik_0 ?_
  refine w_istore_n (L' := [_, _, _]) d_X7_foretells_1 rfl rfl rfl ?_
  exact lp_foretells hn n 0 (by omega) w g hR hI
/-- the reference's ranks by number; its other rows as the first -/
def rkW (w : Hv) (j : Nat) : Hv := fun x y => if x = 11 ∧ y < j then nI y else w x y
theorem rkW_0 {w : Hv} : rkW w 0 = w := by funext x y; exact if_neg (fun q => absurd q.2 (Nat.not_lt_zero _))
theorem rkW_s {w : Hv} {j : Nat} : rkW w (j + 1) = hset (rkW w j) 11 j (nI j) := by
  funext x y
  unfold rkW hset
  dsimp only
  by_cases h1 : x = 11 ∧ y = j
  · rw [if_pos h1, if_pos ⟨h1.1, by omega⟩, h1.2]
  · rw [if_neg h1]
    by_cases h2 : x = 11 ∧ y < j
    · rw [if_pos h2, if_pos ⟨h2.1, by omega⟩]
    · rw [if_neg h2, if_neg (by omega)]
def cpW (w : Hv) (a b j : Nat) : Hv := fun x y => if x = b ∧ y < j then w a y else w x y
theorem cpW_0 {w : Hv} {a b : Nat} : cpW w a b 0 = w := by funext x y; exact if_neg (fun q => absurd q.2 (Nat.not_lt_zero _))
theorem cpW_s {w : Hv} {a b j : Nat} (h : a ≠ b) : cpW w a b (j + 1) = hset (cpW w a b j) b j (cpW w a b j a j) := by
  funext x y
  unfold cpW hset
  dsimp only
  rw [if_neg (c := a = b ∧ j < j) (fun q => h q.1)]
  by_cases h1 : x = b ∧ y = j
  · rw [if_pos h1, if_pos ⟨h1.1, by omega⟩, h1.2]
  · rw [if_neg h1]
    by_cases h2 : x = b ∧ y < j
    · rw [if_pos h2, if_pos ⟨h2.1, by omega⟩]
    · rw [if_neg h2, if_neg (by omega)]
def nowW (w : Hv) : Hv := hset (cpW (cpW w 7 9 17) 8 10 42) 0 21 0
theorem lp_ranksByNumber {h w : Hv} {P : Option Value → Hv → Prop} (kx : GdH M_X7_ranksByNumber 0 21 [some (.ref 360), some (.int (nI 6))] [] (mu h (rkW w 6)) P) : ∀ (n j : Nat), j + n = 6 → GdH M_X7_ranksByNumber 0 2 [some (.ref 360), some (.int (nI j))] [] (mu h (rkW w j)) P := by
  intro n
  induction n with
  | zero =>
    intro j hj
    have hj' : j = 6 := by omega
    rw [hj']
    refine g_iload_n d_X7_ranksByNumber_2 rfl ?_
    refine g_bipush d_X7_ranksByNumber_3 bk_6 ?_
    refine g_icmp_ge d_X7_ranksByNumber_5 (fun c5 => ?_) (fun c5 => absurd (nI_le (a := 6) (b := 6) (Nat.le_refl _) (by omega)) c5)
    exact kx
  | succ n ih =>
    intro j hj
    refine g_iload_n d_X7_ranksByNumber_2 rfl ?_
    refine g_bipush d_X7_ranksByNumber_3 bk_6 ?_
    refine g_icmp_ge d_X7_ranksByNumber_5 (fun c5 => absurd c5 (nI_ge (a := j) (b := 6) (by omega) (by omega))) (fun c5 => ?_)
    refine g_aload_n d_X7_ranksByNumber_8 rfl ?_
    refine h_getR d_X7_ranksByNumber_9 fl_7_40 sp_M rfl ?_
    refine g_iload_n d_X7_ranksByNumber_12 rfl ?_
    refine g_iload_n d_X7_ranksByNumber_13 rfl ?_
    refine mm_astE (k := j) d_X7_ranksByNumber_14 (j := 11) sp_m_rank rfl (by decide) rfl (by omega) (by decide) ?_
    refine w_iinc (L' := [_, _]) d_X7_ranksByNumber_15 ik_1 rfl rfl rfl rfl ?_
    refine g_goto d_X7_ranksByNumber_18 ?_
    have q := ih (j + 1) (by omega)
    rw [rkW_s] at q
    rw [nI_1]
    exact q
theorem m7_ranksByNumber {h w : Hv} : MtF M_X7_ranksByNumber 0 [.ref 360] (mu h w) (none) (mu h (rkW w 6)) := by
  refine MtF.of [some (.ref 360), none] pl_X7 rfl rfl ?_
  refine g_iconst d_X7_ranksByNumber_0 ik_0 ?_
  refine w_istore_n (L' := [_, _]) d_X7_ranksByNumber_1 rfl rfl rfl ?_
  rw [show w = rkW w 0 from rkW_0.symm]
  refine lp_ranksByNumber (w := w) ?_ 6 0 rfl
  refine h_vret d_X7_ranksByNumber_21 rfl ?_
  exact ⟨rfl, by rw [rkW_0]⟩
theorem lp_asNowA {h w : Hv} {P : Option Value → Hv → Prop} (kx : GdH M_X7_asNow 0 26 [some (.ref 360), some (.int (nI 17))] [] (mu h (cpW w 7 9 17)) P) : ∀ (n j : Nat), j + n = 17 → GdH M_X7_asNow 0 2 [some (.ref 360), some (.int (nI j))] [] (mu h (cpW w 7 9 j)) P := by
  intro n
  induction n with
  | zero =>
    intro j hj
    have hj' : j = 17 := by omega
    rw [hj']
    refine g_iload_n d_X7_asNow_2 rfl ?_
    refine g_bipush d_X7_asNow_3 bk_17 ?_
    refine g_icmp_ge d_X7_asNow_5 (fun c5 => ?_) (fun c5 => absurd (nI_le (a := 17) (b := 17) (Nat.le_refl _) (by omega)) c5)
    exact kx
  | succ n ih =>
    intro j hj
    refine g_iload_n d_X7_asNow_2 rfl ?_
    refine g_bipush d_X7_asNow_3 bk_17 ?_
    refine g_icmp_ge d_X7_asNow_5 (fun c5 => absurd c5 (nI_ge (a := j) (b := 17) (by omega) (by omega))) (fun c5 => ?_)
    refine g_aload_n d_X7_asNow_8 rfl ?_
    refine h_getR d_X7_asNow_9 fl_7_34 sp_M rfl ?_
    refine g_iload_n d_X7_asNow_12 rfl ?_
    refine g_aload_n d_X7_asNow_13 rfl ?_
    refine h_getR d_X7_asNow_14 fl_7_28 sp_M rfl ?_
    refine g_iload_n d_X7_asNow_17 rfl ?_
    refine mm_aldE (k := j) d_X7_asNow_18 (j := 7) sp_m_d rfl (by decide) rfl (by omega) (by decide) ?_
    refine mm_astE (k := j) d_X7_asNow_19 (j := 9) sp_m_e rfl (by decide) rfl (by omega) (by decide) ?_
    refine w_iinc (L' := [_, _]) d_X7_asNow_20 ik_1 rfl rfl rfl rfl ?_
    refine g_goto d_X7_asNow_23 ?_
    have q := ih (j + 1) (by omega)
    rw [cpW_s (by decide)] at q
    rw [nI_1]
    exact q
theorem lp_asNowB {h w : Hv} {P : Option Value → Hv → Prop} (kx : GdH M_X7_asNow 0 52 [some (.ref 360), some (.int (nI 42))] [] (mu h (cpW w 8 10 42)) P) : ∀ (n j : Nat), j + n = 42 → GdH M_X7_asNow 0 28 [some (.ref 360), some (.int (nI j))] [] (mu h (cpW w 8 10 j)) P := by
  intro n
  induction n with
  | zero =>
    intro j hj
    have hj' : j = 42 := by omega
    rw [hj']
    refine g_iload_n d_X7_asNow_28 rfl ?_
    refine g_bipush d_X7_asNow_29 bk_42 ?_
    refine g_icmp_ge d_X7_asNow_31 (fun c31 => ?_) (fun c31 => absurd (nI_le (a := 42) (b := 42) (Nat.le_refl _) (by omega)) c31)
    exact kx
  | succ n ih =>
    intro j hj
    refine g_iload_n d_X7_asNow_28 rfl ?_
    refine g_bipush d_X7_asNow_29 bk_42 ?_
    refine g_icmp_ge d_X7_asNow_31 (fun c31 => absurd c31 (nI_ge (a := j) (b := 42) (by omega) (by omega))) (fun c31 => ?_)
    refine g_aload_n d_X7_asNow_34 rfl ?_
    refine h_getR d_X7_asNow_35 fl_7_37 sp_M rfl ?_
    refine g_iload_n d_X7_asNow_38 rfl ?_
    refine g_aload_n d_X7_asNow_39 rfl ?_
    refine h_getR d_X7_asNow_40 fl_7_31 sp_M rfl ?_
    refine g_iload_n d_X7_asNow_43 rfl ?_
    refine mm_aldE (k := j) d_X7_asNow_44 (j := 8) sp_m_s rfl (by decide) rfl (by omega) (by decide) ?_
    refine mm_astE (k := j) d_X7_asNow_45 (j := 10) sp_m_w rfl (by decide) rfl (by omega) (by decide) ?_
    refine w_iinc (L' := [_, _]) d_X7_asNow_46 ik_1 rfl rfl rfl rfl ?_
    refine g_goto d_X7_asNow_49 ?_
    have q := ih (j + 1) (by omega)
    rw [cpW_s (by decide)] at q
    rw [nI_1]
    exact q
theorem m7_asNow {h w : Hv} : MtF M_X7_asNow 0 [.ref 360] (mu h w) (none) (mu h (nowW w)) := by
  refine MtF.of [some (.ref 360), none] pl_X7 rfl rfl ?_
  refine g_iconst d_X7_asNow_0 ik_0 ?_
  refine w_istore_n (L' := [_, _]) d_X7_asNow_1 rfl rfl rfl ?_
  have kx : GdH M_X7_asNow 0 26 [some (.ref 360), some (.int (nI 17))] [] (mu h (cpW w 7 9 17)) (fun v' h' => v' = none ∧ h' = mu h (nowW w)) := by
    refine g_iconst d_X7_asNow_26 ik_0 ?_
    refine w_istore_n (L' := [_, _]) d_X7_asNow_27 rfl rfl rfl ?_
    have ky : GdH M_X7_asNow 0 52 [some (.ref 360), some (.int (nI 42))] [] (mu h (cpW (cpW w 7 9 17) 8 10 42)) (fun v' h' => v' = none ∧ h' = mu h (nowW w)) := by
      refine g_aload_n d_X7_asNow_52 rfl ?_
      refine g_iconst d_X7_asNow_53 ik_0 ?_
      refine mm_putI d_X7_asNow_54 fl_7_155 sp_M rfl ?_
      refine h_vret d_X7_asNow_57 rfl ?_
      exact ⟨rfl, rfl⟩
    have kz := lp_asNowB ky 42 0 rfl
    rw [cpW_0] at kz
    exact kz
  have kz := lp_asNowA kx 17 0 rfl
  rw [cpW_0] at kz
  exact kz
