/-! OPS: undo, image, restore -/
theorem RelP.acts {h w : Hv} (hR : RelP h w) : ∃ c, c ≤ 24 ∧ h 39 1 = nI c ∧ w 0 23 = nI c ∧ (0 < c → ∃ M N i, i < 24 ∧ h 39 2 = nI i ∧ HS M N (hv h 15) (w 7) (w 8) ∧ RActs M N h w i c) := by
  obtain ⟨i, hi, hi2, z | ⟨M, N, c, hS, hA, hO⟩⟩ := hR.2.2.2.1
  · exact ⟨0, by omega, z.2.2.1.1, z.2.2.1.2, fun q => absurd q (by decide)⟩
  · exact ⟨c, hA.2.2.1, hA.1, hA.2.1, fun _ => ⟨M, N, i, hi, hi2, hS, hA⟩⟩
theorem back_mu {h w : Hv} {i c : Nat} (hi : i < 24) : backH (mu h w) i c = mu (backH h i c) w := by
  unfold backH
  rw [mu_pu (by decide), mu_hset (by decide), mu_hset (by decide), pu_ext (g := vw (mu h w) (41 + 12 * i)) (g' := vw h (41 + 12 * i)) (fun j b hj => mu_low (by omega))]
def unW (w : Hv) (c j : Nat) : Hv := fun x y => if x = 8 ∧ y < j then w 12 (42 * c + y) else w x y
theorem unW_s {w : Hv} {c j : Nat} : hset (unW w c j) 8 j (unW w c j 12 (42 * c + j)) = unW w c (j + 1) := by
  funext x y
  unfold hset unW
  by_cases h1 : x = 8 ∧ y = j
  · rw [if_pos h1, if_neg (by omega), if_pos (by omega), h1.2]
  · rw [if_neg h1]
    by_cases h2 : x = 8 ∧ y < j
    · rw [if_pos h2, if_pos (by omega)]
    · rw [if_neg h2, if_neg (by omega)]
theorem unW_0 {w : Hv} {c : Nat} : unW w c 0 = w := by
  funext x y
  unfold unW
  rw [if_neg (by omega)]
theorem unW_j {w : Hv} {c j x y : Nat} (h : x ≠ 8) : unW w c j x y = w x y := if_neg (fun z => h z.1)
theorem undo_end {h w w' : Hv} {M N i c : Nat} (hR : RelP h w) (hi : i < 24) (hi2 : h 39 2 = nI i) (hc : 0 < c) (hA : RActs M N h w i c) (e8 : ∀ y, y < 42 → w' 8 y = w 12 (42 * (c - 1) + y)) (e23 : w' 0 23 = nI (c - 1)) (ew : ∀ x y, x ≠ 8 → ¬ (x = 0 ∧ (y = 0 ∨ y = 23)) → w' x y = w x y) : RelP (hset (backH h i c) 330 3 0) w' := by
  have fr : ∀ x, x ≠ 8 → x ≠ 0 → w' x = w x := fun x h1 h2 => funext (fun y => ew x y h1 (fun q => h2 q.1))
  have f0 : ∀ y, y ≠ 0 → y ≠ 23 → w' 0 y = w 0 y := fun y h1 h2 => ew 0 y (by decide) (by omega)
  have oh : ∀ x y, ¬ (15 ≤ x ∧ x ≤ 26) → ¬ (x = 39 ∧ (y = 1 ∨ y = 2)) → ¬ (x = 330 ∧ y = 3) → hset (backH h i c) 330 3 0 x y = h x y := fun x y h1 h2 h3 => by
    rw [hs_ne h3]
    unfold backH
    rw [hs_ne (by omega), hs_ne (by omega), pu_out (by omega)]
  obtain ⟨a1, a2, a3, a4⟩ := hA
  refine ⟨?_, ?_, ?_, ⟨(i + 23) % 24, Nat.mod_lt _ (by decide), ?_, Or.inr ⟨M, N, c - 1, ?_, ⟨?_, e23, by omega, fun j hj => ?_⟩, ?_⟩⟩, ?_, ?_⟩
  · unfold RStat
    rw [oh _ _ (by omega) (by omega) (by omega), f0 _ (by decide) (by decide)]
    exact hR.1
  · exact hR.2.1.cg (fun x y h1 h2 => oh _ _ (by omega) (by omega) (by omega)) (fr _ (by decide) (by decide)) (fr _ (by decide) (by decide)) (fr _ (by decide) (by decide))
  · exact hR.2.2.1.cg (fun x y q => oh _ _ (by omega) (by omega) (by omega)) (f0 _ (by decide) (by decide)) (f0 _ (by decide) (by decide)) (fr _ (by decide) (by decide))
  · rw [hs_j (by decide)]
    unfold backH
    rw [hs_b (by decide), hs_at]
  · have q := a4 0 hc
    rw [show (i + 24 - 0) % 24 = i by omega] at q
    rw [fr 7 (by decide) (by decide)]
    refine HS.ext (g := hv h (41 + 12 * i)) (fun j b hj => ?_) (q.mv (fun _ _ => rfl) (fun y hy => ?_))
    · rw [hv_at hj, hv_at hj, hs_j (by omega)]
      unfold backH
      rw [hs_j (by omega), hs_j (by omega), pu_at hj]
      rfl
    · exact e8 y hy
  · rw [hs_j (by decide)]
    unfold backH
    rw [hs_at]
  · have q := a4 (j + 1) (by omega)
    have e : ((i + 23) % 24 + 24 - j) % 24 = (i + 24 - (j + 1)) % 24 := by omega
    have hlt := Nat.mod_lt (i + 24 - (j + 1)) (show 0 < 24 by decide)
    rw [e, fr 7 (by decide) (by decide), fr 12 (by decide) (by decide)]
    refine HS.ext (g := hv h (41 + 12 * ((i + 24 - (j + 1)) % 24))) (fun j' b hj' => ?_) (q.mv (fun _ _ => rfl) (fun y hy => ?_))
    · rw [hv_at hj', hv_at hj', oh _ _ (by omega) (by omega) (by omega)]
    · congr 1
      omega
  · exact Or.inl hs_at
  · exact hR.2.2.2.2.1.cg (fun x y h1 h2 => oh _ _ (by omega) (by omega) (by omega)) (fr _ (by decide) (by decide)) (fr _ (by decide) (by decide))
  · exact hR.2.2.2.2.2.cg (fun x y q => oh _ _ (by omega) (by omega) (by omega)) (f0 _ (by decide) (by decide)) (fr _ (by decide) (by decide))
theorem p_takeBack {h w : Hv} {i c : Nat} (hi : h 39 2 = nI i) (hi2 : i < 24) (hc : h 39 1 = nI c) (hc2 : 0 < c) (hc3 : c ≤ 24) : MtF M_X0_takeBack 2 [.ref 39, .ref 15] (mu h w) none (mu (backH h i c) w) := by
  have q := m_takeBack (h := mu h w) ((mu_low (by decide)).trans hi) hi2 ((mu_low (by decide)).trans hc) hc2 hc3
  rw [back_mu hi2] at q
  exact q
theorem p_forget {h w : Hv} : MtF M_X3_forget 0 [.ref 330] (mu h w) none (mu (hset h 330 3 0) w) := by
  have q := m_forget (h := mu h w)
  rw [mu_hset (by decide)] at q
  exact q
theorem lp_undo {h w : Hv} {c : Nat} (hc : w 0 23 = nI c) (hc2 : c ≤ 23) {P : Option Value → Hv → Prop} (kx : GdH M_X7_undo 0 59 [some (.ref 360), some (.int (nI 42))] [] (mu h (unW w c 42)) P) : ∀ (n j : Nat), j + n = 42 → GdH M_X7_undo 0 27 [some (.ref 360), some (.int (nI j))] [] (mu h (unW w c j)) P := by
  intro n
  induction n with
  | zero =>
    intro j hj
    have hj' : j = 42 := by omega
    rw [hj']
    refine g_iload_n d_X7_undo_27 rfl ?_
    refine g_bipush d_X7_undo_28 bk_42 ?_
    refine g_icmp_ge d_X7_undo_30 (fun c30 => ?_) (fun c30 => absurd (nI_le (a := 42) (b := 42) (Nat.le_refl _) (by omega)) c30)
    exact kx
  | succ n ih =>
    intro j hj
    refine g_iload_n d_X7_undo_27 rfl ?_
    refine g_bipush d_X7_undo_28 bk_42 ?_
    refine g_icmp_ge d_X7_undo_30 (fun c30 => absurd c30 (nI_ge (a := j) (b := 42) (by omega) (by omega))) (fun c30 => ?_)
    refine g_aload_n d_X7_undo_33 rfl ?_
    refine h_getR d_X7_undo_34 fl_7_31 sp_M rfl ?_
    refine g_iload_n d_X7_undo_37 rfl ?_
    refine g_aload_n d_X7_undo_38 rfl ?_
    refine h_getR d_X7_undo_39 fl_7_43 sp_M rfl ?_
    refine g_bipush d_X7_undo_42 bk_42 ?_
    refine g_aload_n d_X7_undo_44 rfl ?_
    refine mm_getV (v := nI c) d_X7_undo_45 fl_7_149 sp_M rfl ((unW_j (by decide)).trans hc) ?_
    refine g_imul d_X7_undo_48 ?_
    refine g_iload_n d_X7_undo_49 rfl ?_
    refine g_iadd d_X7_undo_50 ?_
    refine mm_aldE (k := ((42 * c) + j)) d_X7_undo_51 (j := 12) sp_m_undos rfl (by decide) (nAdd (nMul rfl rfl) rfl) (by omega) (by decide) ?_
    refine mm_astE (k := j) d_X7_undo_52 (j := 8) sp_m_s rfl (by decide) rfl (by omega) (by decide) ?_
    refine w_iinc (L' := [_, _]) d_X7_undo_53 ik_1 rfl rfl rfl rfl ?_
    refine g_goto d_X7_undo_56 ?_
    have q := ih (j + 1) (by omega)
    rw [← unW_s] at q
    rw [nI_1]
    exact q
theorem op_undo {h w : Hv} (hR : RelP h w) : OPI M_X6_undo M_X7_undo 3 0 [] (mu h w) := by
  obtain ⟨c, hc, hc1, hc2, hc4⟩ := hR.acts
  refine MtH.of [some (.ref 0)] pl_X6 rfl rfl ?_
  refine g_aload_n d_X6_undo_0 rfl ?_
  refine h_getR d_X6_undo_1 fl_6_36 sp_L rfl ?_
  refine h_getV (v := nI c) d_X6_undo_4 fl_6_138 sp_Acts rfl ((mu_low (by decide)).trans hc1) ?_
  refine g_if_ne d_X6_undo_7 (fun c7 => ?_) (fun c7 => ?_)
  · have hc0 : 0 < c := by
      rcases Nat.eq_zero_or_pos c with z | z
      · subst z; exact absurd rfl c7
      · exact z
    obtain ⟨M, N, i, hi, hi2, hS, hA⟩ := hc4 hc0
    refine g_aload_n d_X6_undo_13 rfl ?_
    refine h_getR d_X6_undo_14 fl_6_36 sp_L rfl ?_
    refine g_aload_n d_X6_undo_17 rfl ?_
    refine h_getR d_X6_undo_18 fl_6_26 sp_L rfl ?_
    refine h_V1v d_X6_undo_21 cl_6_142 (p_takeBack hi2 hi hc1 hc0 hc) sp_Acts (by decide) rfl (Nat.le_of_ble_eq_true rfl) (by decide) ?_
    refine g_aload_n d_X6_undo_24 rfl ?_
    refine h_getR d_X6_undo_25 fl_6_47 sp_L rfl ?_
    refine h_V0v d_X6_undo_28 cl_6_145 p_forget sp_Orders (by decide) rfl (Nat.le_of_ble_eq_true rfl) (by decide) ?_
    refine g_aload_n d_X6_undo_31 rfl ?_
    refine h_getR d_X6_undo_32 fl_6_36 sp_L rfl ?_
    refine h_getV (v := nI (c - 1)) d_X6_undo_35 fl_6_138 sp_Acts rfl ((mu_low (by decide)).trans (show hset (backH h i c) 330 3 0 39 1 = nI (c - 1) by rw [hs_j (by decide)]; unfold backH; rw [hs_at])) ?_
    refine h_iret d_X6_undo_38 rfl ?_
    refine ⟨_, rfl, ?_⟩
    refine MtH.of [some (.ref 360), none] pl_X7 rfl rfl ?_
    refine g_aload_n d_X7_undo_0 rfl ?_
    refine g_iconst d_X7_undo_1 ik_0 ?_
    refine mm_putI d_X7_undo_2 fl_7_62 sp_M rfl ?_
    refine g_aload_n d_X7_undo_5 rfl ?_
    refine mm_getV (v := nI c) d_X7_undo_6 fl_7_149 sp_M rfl ((hs_b (by decide)).trans hc2) ?_
    refine g_if_ne d_X7_undo_9 (fun c9 => ?_) (fun c9 => absurd c9 c7)
    refine g_aload_n d_X7_undo_15 rfl ?_
    refine g_dup d_X7_undo_16 rfl ?_
    refine mm_getV (v := nI c) d_X7_undo_17 fl_7_149 sp_M rfl ((hs_b (by decide)).trans hc2) ?_
    refine g_iconst d_X7_undo_20 ik_1 ?_
    refine g_isub d_X7_undo_21 ?_
    refine mm_putI d_X7_undo_22 fl_7_149 sp_M rfl ?_
    rw [show nI c - 1 = nI (c - 1) from pk_sub (b := 1) hc0]
    refine g_iconst d_X7_undo_25 ik_0 ?_
    refine w_istore_n (L' := [_, _]) d_X7_undo_26 rfl rfl rfl ?_
    rw [show hset (hset w 0 0 0) 0 23 (nI (c - 1)) = unW (hset (hset w 0 0 0) 0 23 (nI (c - 1))) (c - 1) 0 from unW_0.symm]
    refine lp_undo (c := c - 1) hs_at (by omega) ?_ 42 0 rfl
    refine g_aload_n d_X7_undo_59 rfl ?_
    refine mm_getV (v := nI (c - 1)) d_X7_undo_60 fl_7_149 sp_M rfl ((unW_j (by decide)).trans hs_at) ?_
    refine h_iret d_X7_undo_63 rfl ?_
    refine ⟨rfl, _, _, rfl, undo_end hR hi hi2 hc0 hA (fun y hy => ?_) ?_ (fun x y h1 h2 => ?_)⟩
    · rw [unW, if_pos ⟨rfl, hy⟩, hs_j (by decide), hs_j (by decide)]
    · rw [unW_j (by decide), hs_at]
    · rw [unW_j h1, hs_ne (by omega), hs_ne (by omega)]
  · refine g_ldc d_X6_undo_10 kc_X6_141 ?_
    refine h_iret d_X6_undo_12 rfl ?_
    refine ⟨_, rfl, ?_⟩
    refine MtH.of [some (.ref 360), none] pl_X7 rfl rfl ?_
    refine g_aload_n d_X7_undo_0 rfl ?_
    refine g_iconst d_X7_undo_1 ik_0 ?_
    refine mm_putI d_X7_undo_2 fl_7_62 sp_M rfl ?_
    refine g_aload_n d_X7_undo_5 rfl ?_
    refine mm_getV (v := nI c) d_X7_undo_6 fl_7_149 sp_M rfl ((hs_b (by decide)).trans hc2) ?_
    refine g_if_ne d_X7_undo_9 (fun c9 => absurd c7 c9) (fun c9 => ?_)
    refine g_ldc d_X7_undo_12 kc_X7_194 ?_
    refine h_iret d_X7_undo_14 rfl ?_
    exact ⟨rfl, _, _, rfl, hR.fr fr_thrown⟩
theorem images_at {k : Nat} (h : k < 2) : ([some 336, some 348] : List (Option Nat))[(nI k).toNatClampNeg]? = some (some (336 + 12 * k)) := by
  rcases (show k = 0 ∨ k = 1 by omega) with rfl | rfl <;> rfl
def imA (w : Hv) (k j : Nat) : Hv := fun x y => if x = 13 ∧ 59 * k ≤ y ∧ y < 59 * k + j then w 7 (y - 59 * k) else w x y
def imB (w : Hv) (k j : Nat) : Hv := fun x y => if x = 13 ∧ 59 * k + 17 ≤ y ∧ y < 59 * k + 17 + j then w 8 (y - (59 * k + 17)) else w x y
theorem imA_s {w : Hv} {k j : Nat} : hset (imA w k j) 13 (59 * k + j) (imA w k j 7 j) = imA w k (j + 1) := by
  funext x y
  unfold hset imA
  by_cases h1 : x = 13 ∧ y = 59 * k + j
  · rw [if_pos h1, if_neg (by omega), if_pos (by omega), h1.2, Nat.add_sub_cancel_left]
  · rw [if_neg h1]
    by_cases h2 : x = 13 ∧ 59 * k ≤ y ∧ y < 59 * k + j
    · rw [if_pos h2, if_pos (by omega)]
    · rw [if_neg h2, if_neg (by omega)]
theorem imB_s {w : Hv} {k j : Nat} : hset (imB w k j) 13 (59 * k + 17 + j) (imB w k j 8 j) = imB w k (j + 1) := by
  funext x y
  unfold hset imB
  by_cases h1 : x = 13 ∧ y = 59 * k + 17 + j
  · rw [if_pos h1, if_neg (by omega), if_pos (by omega), h1.2, Nat.add_sub_cancel_left]
  · rw [if_neg h1]
    by_cases h2 : x = 13 ∧ 59 * k + 17 ≤ y ∧ y < 59 * k + 17 + j
    · rw [if_pos h2, if_pos (by omega)]
    · rw [if_neg h2, if_neg (by omega)]
theorem imA_0 {w : Hv} {k : Nat} : imA w k 0 = w := by
  funext x y
  unfold imA
  rw [if_neg (by omega)]
theorem imB_0 {w : Hv} {k : Nat} : imB w k 0 = w := by
  funext x y
  unfold imB
  rw [if_neg (by omega)]
theorem imA_j {w : Hv} {k j x y : Nat} (h : x ≠ 13) : imA w k j x y = w x y := if_neg (fun z => h z.1)
theorem imB_j {w : Hv} {k j x y : Nat} (h : x ≠ 13) : imB w k j x y = w x y := if_neg (fun z => h z.1)
theorem img_end {h w w' : Hv} {M N k : Nat} (hR : RelP h w) (hk : k < 2) (hS : HS M N (hv h 15) (w 7) (w 8)) (e7 : ∀ y, y < 17 → w' 13 (59 * k + y) = w 7 y) (e8 : ∀ y, y < 42 → w' 13 (59 * k + 17 + y) = w 8 y) (eo : ∀ q y, q < 2 → q ≠ k → y < 59 → w' 13 (59 * q + y) = w 13 (59 * q + y)) (e14 : w' 14 k = 1) (eo4 : ∀ q, q ≠ k → w' 14 q = w 14 q) (ew : ∀ x y, x ≠ 13 → x ≠ 14 → ¬ (x = 0 ∧ y = 0) → w' x y = w x y) : RelP (pu h (336 + 12 * k) (vw h 15)) w' := by
  have fr : ∀ x, x ≠ 13 → x ≠ 14 → x ≠ 0 → w' x = w x := fun x h1 h2 h3 => funext (fun y => ew x y h1 h2 (fun q => h3 q.1))
  have f0 : ∀ y, y ≠ 0 → w' 0 y = w 0 y := fun y h1 => ew 0 y (by decide) (by decide) (by omega)
  have oh : ∀ x y, x < 336 → pu h (336 + 12 * k) (vw h 15) x y = h x y := fun x y h1 => blk_out (by omega)
  refine ⟨?_, ?_, ?_, ?_, fun q hq => ?_, ?_⟩
  · unfold RStat
    rw [oh _ _ (by omega), f0 _ (by decide)]
    exact hR.1
  · exact hR.2.1.cg (fun x y h1 h2 => oh _ _ (by omega)) (fr _ (by decide) (by decide) (by decide)) (fr _ (by decide) (by decide) (by decide)) (fr _ (by decide) (by decide) (by decide))
  · exact hR.2.2.1.cg (fun x y q => oh _ _ (by omega)) (f0 _ (by decide)) (f0 _ (by decide)) (fr _ (by decide) (by decide) (by decide))
  · exact hR.2.2.2.1.cg (fun x y q => oh _ _ (by omega)) (fr _ (by decide) (by decide) (by decide)) (fr _ (by decide) (by decide) (by decide)) (fr _ (by decide) (by decide) (by decide)) (f0 _ (by decide))
  · by_cases e : q = k
    · subst e
      refine Or.inr ⟨e14, M, N, HS.ext (g := hv h 15) (fun j b hj => ?_) (hS.mv e7 e8)⟩
      rw [hv_pu hj, hv_at hj]
      rfl
    · rw [eo4 q e]
      rcases hR.2.2.2.2.1 q hq with z | ⟨z1, M', N', z2⟩
      · exact Or.inl ⟨z.1, (blk_out (by omega)).trans z.2⟩
      · refine Or.inr ⟨z1, M', N', HS.ext (g := hv h (336 + 12 * q)) (fun j b hj => ?_) (z2.mv (fun y hy => eo q y hq e (by omega)) (fun y hy => ?_))⟩
        · rw [hv_at hj, hv_at hj, pu_out (by omega)]
        · have := eo q (17 + y) hq e (by omega)
          rw [Nat.add_assoc]
          exact this
  · exact hR.2.2.2.2.2.cg (fun x y q => oh _ _ (by omega)) (f0 _ (by decide)) (fr _ (by decide) (by decide) (by decide))
theorem img_mu {h w : Hv} {k : Nat} (hk : k < 2) : pu (mu h w) (336 + 12 * k) (vw (mu h w) 15) = mu (pu h (336 + 12 * k) (vw h 15)) w := by
  rw [mu_pu (by omega), pu_ext (g := vw (mu h w) 15) (g' := vw h 15) (fun j b hj => mu_low (by omega))]
theorem lp_imageA {h w : Hv} {k : Nat} (hk : k < 2) {P : Option Value → Hv → Prop} (kx : GdH M_X7_image 1 58 [some (.ref 360), some (.int (nI k)), some (.int (nI 17))] [] (mu h (imA w k 17)) P) : ∀ (n j : Nat), j + n = 17 → GdH M_X7_image 1 29 [some (.ref 360), some (.int (nI k)), some (.int (nI j))] [] (mu h (imA w k j)) P := by
  intro n
  induction n with
  | zero =>
    intro j hj
    have hj' : j = 17 := by omega
    rw [hj']
    refine g_iload_n d_X7_image_29 rfl ?_
    refine g_bipush d_X7_image_30 bk_17 ?_
    refine g_icmp_ge d_X7_image_32 (fun c32 => ?_) (fun c32 => absurd (nI_le (a := 17) (b := 17) (Nat.le_refl _) (by omega)) c32)
    exact kx
  | succ n ih =>
    intro j hj
    refine g_iload_n d_X7_image_29 rfl ?_
    refine g_bipush d_X7_image_30 bk_17 ?_
    refine g_icmp_ge d_X7_image_32 (fun c32 => absurd c32 (nI_ge (a := j) (b := 17) (by omega) (by omega))) (fun c32 => ?_)
    refine g_aload_n d_X7_image_35 rfl ?_
    refine h_getR d_X7_image_36 fl_7_46 sp_M rfl ?_
    refine g_bipush d_X7_image_39 bk_59 ?_
    refine g_iload_n d_X7_image_41 rfl ?_
    refine g_imul d_X7_image_42 ?_
    refine g_iload_n d_X7_image_43 rfl ?_
    refine g_iadd d_X7_image_44 ?_
    refine g_aload_n d_X7_image_45 rfl ?_
    refine h_getR d_X7_image_46 fl_7_28 sp_M rfl ?_
    refine g_iload_n d_X7_image_49 rfl ?_
    refine mm_aldE (k := j) d_X7_image_50 (j := 7) sp_m_d rfl (by decide) rfl (by omega) (by decide) ?_
    refine mm_astE (k := ((59 * k) + j)) d_X7_image_51 (j := 13) sp_m_kept rfl (by decide) (nAdd (nMul rfl rfl) rfl) (by omega) (by decide) ?_
    refine w_iinc (L' := [_, _, _]) d_X7_image_52 ik_1 rfl rfl rfl rfl ?_
    refine g_goto d_X7_image_55 ?_
    have q := ih (j + 1) (by omega)
    rw [← imA_s] at q
    rw [nI_1]
    exact q
theorem lp_imageB {h w : Hv} {k : Nat} (hk : k < 2) {P : Option Value → Hv → Prop} (kx : GdH M_X7_image 1 92 [some (.ref 360), some (.int (nI k)), some (.int (nI 42))] [] (mu h (imB w k 42)) P) : ∀ (n j : Nat), j + n = 42 → GdH M_X7_image 1 60 [some (.ref 360), some (.int (nI k)), some (.int (nI j))] [] (mu h (imB w k j)) P := by
  intro n
  induction n with
  | zero =>
    intro j hj
    have hj' : j = 42 := by omega
    rw [hj']
    refine g_iload_n d_X7_image_60 rfl ?_
    refine g_bipush d_X7_image_61 bk_42 ?_
    refine g_icmp_ge d_X7_image_63 (fun c63 => ?_) (fun c63 => absurd (nI_le (a := 42) (b := 42) (Nat.le_refl _) (by omega)) c63)
    exact kx
  | succ n ih =>
    intro j hj
    refine g_iload_n d_X7_image_60 rfl ?_
    refine g_bipush d_X7_image_61 bk_42 ?_
    refine g_icmp_ge d_X7_image_63 (fun c63 => absurd c63 (nI_ge (a := j) (b := 42) (by omega) (by omega))) (fun c63 => ?_)
    refine g_aload_n d_X7_image_66 rfl ?_
    refine h_getR d_X7_image_67 fl_7_46 sp_M rfl ?_
    refine g_bipush d_X7_image_70 bk_59 ?_
    refine g_iload_n d_X7_image_72 rfl ?_
    refine g_imul d_X7_image_73 ?_
    refine g_bipush d_X7_image_74 bk_17 ?_
    refine g_iadd d_X7_image_76 ?_
    refine g_iload_n d_X7_image_77 rfl ?_
    refine g_iadd d_X7_image_78 ?_
    refine g_aload_n d_X7_image_79 rfl ?_
    refine h_getR d_X7_image_80 fl_7_31 sp_M rfl ?_
    refine g_iload_n d_X7_image_83 rfl ?_
    refine mm_aldE (k := j) d_X7_image_84 (j := 8) sp_m_s rfl (by decide) rfl (by omega) (by decide) ?_
    refine mm_astE (k := (((59 * k) + 17) + j)) d_X7_image_85 (j := 13) sp_m_kept rfl (by decide) (nAdd (nAdd (nMul rfl rfl) rfl) rfl) (by omega) (by decide) ?_
    refine w_iinc (L' := [_, _, _]) d_X7_image_86 ik_1 rfl rfl rfl rfl ?_
    refine g_goto d_X7_image_89 ?_
    have q := ih (j + 1) (by omega)
    rw [← imB_s] at q
    rw [nI_1]
    exact q
theorem op_image {h w : Hv} (hR : RelP h w) {x : Int32} : OPI M_X6_image M_X7_image 2 1 [.int x] (mu h w) := by
  obtain ⟨M, N, hM5, hN6, gM, wM, gN, wN, hZ⟩ := hR.mn
  have eM : (nI M).toInt = M := nI_toInt (by omega)
  have eN : (nI N).toInt = N := nI_toInt (by omega)
  have eM1 := nI_predI (t := M) (by omega)
  have eN1 := nI_predI (t := N) (by omega)
  refine MtH.of [some (.ref 0), some (.int x)] pl_X6 rfl rfl ?_
  refine g_iload_n d_X6_image_0 rfl ?_
  refine g_if_lt d_X6_image_1 (fun c1 => ?_) (fun c1 => ?_)
  · refine g_ldc d_X6_image_9 kc_X6_66 ?_
    refine h_iret d_X6_image_11 rfl ?_
    refine ⟨_, rfl, ?_⟩
    refine MtH.of [some (.ref 360), some (.int x), none] pl_X7 rfl rfl ?_
    refine g_aload_n d_X7_image_0 rfl ?_
    refine g_iconst d_X7_image_1 ik_0 ?_
    refine mm_putI d_X7_image_2 fl_7_62 sp_M rfl ?_
    refine g_iload_n d_X7_image_5 rfl ?_
    refine g_iconst d_X7_image_6 ik_0 ?_
    refine g_iconst d_X7_image_7 ik_1 ?_
    refine h_S3i d_X7_image_8 cl_7_70 m7_in (Nat.le_of_ble_eq_true rfl) (by decide) ?_
    refine g_if_ne d_X7_image_11 (fun c11 => ?_) (fun c11 => ?_)
    · exfalso
      simp only [b2i_eq0, b2i_ne0, Int32.lt_iff_toInt_lt, Int32.le_iff_toInt_le, t_0, t_1, t_2, t_3, t_4, t_5, t_6, t_7, t_8, t_9, t_10, t_11, t_12, t_20, t_24, t_40, t_50, t_60, t_99, t_110, t_255, t_999, t_999999, t_m1, gM, gN, eM, eN, eM1, eN1] at *
      omega
    · refine g_ldc d_X7_image_14 kc_X7_78 ?_
      refine h_iret d_X7_image_16 rfl ?_
      exact ⟨rfl, _, _, rfl, hR.fr fr_thrown⟩
  · refine g_iload_n d_X6_image_4 rfl ?_
    refine g_iconst d_X6_image_5 ik_2 ?_
    refine g_icmp_lt d_X6_image_6 (fun c6 => ?_) (fun c6 => ?_)
    · refine g_aload_n d_X6_image_12 rfl ?_
      refine h_getR d_X6_image_13 fl_6_26 sp_L rfl ?_
      refine h_V0i d_X6_image_16 cl_6_154 p_isNone (sp_hall hall_15) (by decide) rfl (Nat.le_of_ble_eq_true rfl) (by decide) ?_
      refine g_if_eq d_X6_image_19 (fun c19 => ?_) (fun c19 => ?_)
      · have hM0 : ¬ nI M = 0 := fun z => b2i_eq0.mp c19 (gM.trans z)
        obtain ⟨i0, c0, hi0, hi1, hS, hA, hO⟩ := (hZ.resolve_left (fun z => hM0 (by rw [z.1]; rfl))).2.2
        have hI := hS.1
        obtain ⟨k, hk, rfl⟩ := rngI (x := x) (B := 2) (by simp only [b2i_eq0, b2i_ne0, Int32.lt_iff_toInt_lt, Int32.le_iff_toInt_le, t_0, t_1, t_2, t_3, t_4, t_5, t_6, t_7, t_8, t_9, t_10, t_11, t_12, t_20, t_24, t_40, t_50, t_60, t_99, t_110, t_255, t_999, t_999999, t_m1, gM, gN, eM, eN, eM1, eN1] at *; omega) (by simp only [b2i_eq0, b2i_ne0, Int32.lt_iff_toInt_lt, Int32.le_iff_toInt_le, t_0, t_1, t_2, t_3, t_4, t_5, t_6, t_7, t_8, t_9, t_10, t_11, t_12, t_20, t_24, t_40, t_50, t_60, t_99, t_110, t_255, t_999, t_999999, t_m1, gM, gN, eM, eN, eM1, eN1] at *; omega)
        have ek : (nI k).toInt = k := nI_toInt (by omega)
        refine g_aload_n d_X6_image_25 rfl ?_
        refine h_getR d_X6_image_26 fl_6_40 sp_L rfl ?_
        refine g_iload_n d_X6_image_29 rfl ?_
        refine h_aaldH d_X6_image_30 sp_images (nI_pos (by omega)) (images_at hk) ?_
        refine g_aload_n d_X6_image_31 rfl ?_
        refine h_getR d_X6_image_32 fl_6_26 sp_L rfl ?_
        refine h_V1v d_X6_image_35 cl_6_151 (m_become (hall_img k hk) hall_15 (by omega)) (sp_hall (hall_img k hk)) (by decide) rfl (Nat.le_of_ble_eq_true rfl) (by decide) ?_
        refine g_iconst d_X6_image_38 ik_1 ?_
        refine h_iret d_X6_image_39 rfl ?_
        refine ⟨_, rfl, ?_⟩
        rw [img_mu hk]
        refine MtH.of [some (.ref 360), some (.int (nI k)), none] pl_X7 rfl rfl ?_
        refine g_aload_n d_X7_image_0 rfl ?_
        refine g_iconst d_X7_image_1 ik_0 ?_
        refine mm_putI d_X7_image_2 fl_7_62 sp_M rfl ?_
        refine g_iload_n d_X7_image_5 rfl ?_
        refine g_iconst d_X7_image_6 ik_0 ?_
        refine g_iconst d_X7_image_7 ik_1 ?_
        refine h_S3i d_X7_image_8 cl_7_70 m7_in (Nat.le_of_ble_eq_true rfl) (by decide) ?_
        refine g_if_ne d_X7_image_11 (fun c11 => ?_) (fun c11 => ?_)
        · refine g_aload_n d_X7_image_17 rfl ?_
          refine h_V0i d_X7_image_18 cl_7_195 (m7_isNothing ((hs_j (by decide)).trans wM)) sp_M (by decide) rfl (Nat.le_of_ble_eq_true rfl) (by decide) ?_
          refine g_if_eq d_X7_image_21 (fun c21 => ?_) (fun c21 => ?_)
          · refine g_iconst d_X7_image_27 ik_0 ?_
            refine w_istore_n (L' := [_, _, _]) d_X7_image_28 rfl rfl rfl ?_
            rw [show hset w 0 0 0 = imA (hset w 0 0 0) k 0 from imA_0.symm]
            refine lp_imageA hk ?_ 17 0 rfl
            refine g_iconst d_X7_image_58 ik_0 ?_
            refine w_istore_n (L' := [_, _, _]) d_X7_image_59 rfl rfl rfl ?_
            rw [show imA (hset w 0 0 0) k 17 = imB (imA (hset w 0 0 0) k 17) k 0 from imB_0.symm]
            refine lp_imageB hk ?_ 42 0 rfl
            refine g_aload_n d_X7_image_92 rfl ?_
            refine h_getR d_X7_image_93 fl_7_49 sp_M rfl ?_
            refine g_iload_n d_X7_image_96 rfl ?_
            refine g_iconst d_X7_image_97 ik_1 ?_
            refine mm_zast d_X7_image_98 (j := 14) sp_m_isKept rfl (by decide) (by exact in_nI hk) ?_
            rw [nI_clamp (by omega), show vp_nar .boolean (1 : Int32) = 1 by decide]
            refine g_iconst d_X7_image_99 ik_1 ?_
            refine h_iret d_X7_image_100 rfl ?_
            refine ⟨rfl, _, _, rfl, img_end hR hk hS (fun y hy => ?_) (fun y hy => ?_) (fun q y h1 h2 hy => ?_) hs_at (fun q h1 => ?_) (fun x y h1 h2 h3 => ?_)⟩
            · rw [hs_j (by decide), imB, if_neg (by omega), imA, if_pos (by omega), hs_j (by decide), Nat.add_sub_cancel_left]
            · rw [hs_j (by decide), imB, if_pos (by omega), imA_j (by decide), hs_j (by decide), Nat.add_sub_cancel_left]
            · rw [hs_j (by decide), imB, if_neg (by omega), imA, if_neg (by omega), hs_j (by decide)]
            · rw [hs_b h1, imB_j (by decide), imA_j (by decide), hs_j (by decide)]
            · rw [hs_j h2, imB_j h1, imA_j h1, hs_ne h3]
          · exact absurd (b2i_ne0.mp c21) hM0
        · exfalso
          simp only [b2i_eq0, b2i_ne0, Int32.lt_iff_toInt_lt, Int32.le_iff_toInt_le, t_0, t_1, t_2, t_3, t_4, t_5, t_6, t_7, t_8, t_9, t_10, t_11, t_12, t_20, t_24, t_40, t_50, t_60, t_99, t_110, t_255, t_999, t_999999, t_m1, ek, gM, gN, eM, eN, eM1, eN1] at *
          omega
      · refine g_ldc d_X6_image_22 kc_X6_141 ?_
        refine h_iret d_X6_image_24 rfl ?_
        refine ⟨_, rfl, ?_⟩
        refine MtH.of [some (.ref 360), some (.int x), none] pl_X7 rfl rfl ?_
        refine g_aload_n d_X7_image_0 rfl ?_
        refine g_iconst d_X7_image_1 ik_0 ?_
        refine mm_putI d_X7_image_2 fl_7_62 sp_M rfl ?_
        refine g_iload_n d_X7_image_5 rfl ?_
        refine g_iconst d_X7_image_6 ik_0 ?_
        refine g_iconst d_X7_image_7 ik_1 ?_
        refine h_S3i d_X7_image_8 cl_7_70 m7_in (Nat.le_of_ble_eq_true rfl) (by decide) ?_
        refine g_if_ne d_X7_image_11 (fun c11 => ?_) (fun c11 => ?_)
        · refine g_aload_n d_X7_image_17 rfl ?_
          refine h_V0i d_X7_image_18 cl_7_195 (m7_isNothing ((hs_j (by decide)).trans wM)) sp_M (by decide) rfl (Nat.le_of_ble_eq_true rfl) (by decide) ?_
          refine g_if_eq d_X7_image_21 (fun c21 => ?_) (fun c21 => ?_)
          · exact absurd (gM.symm.trans (b2i_ne0.mp c19)) (b2i_eq0.mp c21)
          · refine g_ldc d_X7_image_24 kc_X7_194 ?_
            refine h_iret d_X7_image_26 rfl ?_
            exact ⟨rfl, _, _, rfl, hR.fr fr_thrown⟩
        · exfalso
          simp only [b2i_eq0, b2i_ne0, Int32.lt_iff_toInt_lt, Int32.le_iff_toInt_le, t_0, t_1, t_2, t_3, t_4, t_5, t_6, t_7, t_8, t_9, t_10, t_11, t_12, t_20, t_24, t_40, t_50, t_60, t_99, t_110, t_255, t_999, t_999999, t_m1, gM, gN, eM, eN, eM1, eN1] at *
          omega
    · refine g_ldc d_X6_image_9 kc_X6_66 ?_
      refine h_iret d_X6_image_11 rfl ?_
      refine ⟨_, rfl, ?_⟩
      refine MtH.of [some (.ref 360), some (.int x), none] pl_X7 rfl rfl ?_
      refine g_aload_n d_X7_image_0 rfl ?_
      refine g_iconst d_X7_image_1 ik_0 ?_
      refine mm_putI d_X7_image_2 fl_7_62 sp_M rfl ?_
      refine g_iload_n d_X7_image_5 rfl ?_
      refine g_iconst d_X7_image_6 ik_0 ?_
      refine g_iconst d_X7_image_7 ik_1 ?_
      refine h_S3i d_X7_image_8 cl_7_70 m7_in (Nat.le_of_ble_eq_true rfl) (by decide) ?_
      refine g_if_ne d_X7_image_11 (fun c11 => ?_) (fun c11 => ?_)
      · exfalso
        simp only [b2i_eq0, b2i_ne0, Int32.lt_iff_toInt_lt, Int32.le_iff_toInt_le, t_0, t_1, t_2, t_3, t_4, t_5, t_6, t_7, t_8, t_9, t_10, t_11, t_12, t_20, t_24, t_40, t_50, t_60, t_99, t_110, t_255, t_999, t_999999, t_m1, gM, gN, eM, eN, eM1, eN1] at *
        omega
      · refine g_ldc d_X7_image_14 kc_X7_78 ?_
        refine h_iret d_X7_image_16 rfl ?_
        exact ⟨rfl, _, _, rfl, hR.fr fr_thrown⟩
def reA (w : Hv) (k j : Nat) : Hv := fun x y => if x = 7 ∧ y < j then w 13 (59 * k + y) else w x y
def reB (w : Hv) (k j : Nat) : Hv := fun x y => if x = 8 ∧ y < j then w 13 (59 * k + 17 + y) else w x y
theorem reA_s {w : Hv} {k j : Nat} : hset (reA w k j) 7 j (reA w k j 13 (59 * k + j)) = reA w k (j + 1) := by
  funext x y
  unfold hset reA
  by_cases h1 : x = 7 ∧ y = j
  · rw [if_pos h1, if_neg (by omega), if_pos (by omega), h1.2]
  · rw [if_neg h1]
    by_cases h2 : x = 7 ∧ y < j
    · rw [if_pos h2, if_pos (by omega)]
    · rw [if_neg h2, if_neg (by omega)]
theorem reB_s {w : Hv} {k j : Nat} : hset (reB w k j) 8 j (reB w k j 13 (59 * k + 17 + j)) = reB w k (j + 1) := by
  funext x y
  unfold hset reB
  by_cases h1 : x = 8 ∧ y = j
  · rw [if_pos h1, if_neg (by omega), if_pos (by omega), h1.2]
  · rw [if_neg h1]
    by_cases h2 : x = 8 ∧ y < j
    · rw [if_pos h2, if_pos (by omega)]
    · rw [if_neg h2, if_neg (by omega)]
theorem reA_0 {w : Hv} {k : Nat} : reA w k 0 = w := by
  funext x y
  unfold reA
  rw [if_neg (by omega)]
theorem reB_0 {w : Hv} {k : Nat} : reB w k 0 = w := by
  funext x y
  unfold reB
  rw [if_neg (by omega)]
theorem reA_j {w : Hv} {k j x y : Nat} (h : x ≠ 7) : reA w k j x y = w x y := if_neg (fun z => h z.1)
theorem reB_j {w : Hv} {k j x y : Nat} (h : x ≠ 8) : reB w k j x y = w x y := if_neg (fun z => h z.1)
/-- the hall is another one, all acts are forgotten -/
theorem repl_end {h h' w w' : Hv} {M N : Nat} (hR : RelP h w) (hS : HS M N (hv h' 15) (w' 7) (w' 8)) (h1 : h' 39 1 = 0) (h2 : h' 330 3 = 0) (oh : ∀ x y, ¬ (15 ≤ x ∧ x ≤ 26) → ¬ (x = 39 ∧ y = 1) → ¬ (x = 330 ∧ y = 3) → ¬ (27 ≤ x ∧ x ≤ 38) → ¬ x = 13 → x < 360 → h' x y = h x y) (ht : RTape h' w') (e23 : w' 0 23 = 0) (ew : ∀ x y, x ≠ 7 → x ≠ 8 → x ≠ 5 → x ≠ 6 → ¬ (x = 0 ∧ (y = 0 ∨ y = 6 ∨ (7 ≤ y ∧ y ≤ 13) ∨ y = 23)) → w' x y = w x y) : RelP h' w' := by
  have fr : ∀ x, x ≠ 7 → x ≠ 8 → x ≠ 5 → x ≠ 6 → x ≠ 0 → w' x = w x := fun x h1 h2 h3 h4 h5 => funext (fun y => ew x y h1 h2 h3 h4 (fun q => h5 q.1))
  obtain ⟨i, hi, hi2, -⟩ := hR.2.2.2.1
  refine ⟨?_, ?_, ht, ⟨i, hi, ?_, Or.inr ⟨M, N, 0, hS, ⟨h1, e23, by omega, fun j hj => absurd hj (by omega)⟩, Or.inl h2⟩⟩, ?_, ?_⟩
  · unfold RStat
    rw [oh _ _ (by omega) (by omega) (by omega) (by omega) (by omega) (by omega), ew 0 4 (by decide) (by decide) (by decide) (by decide) (by omega)]
    exact hR.1
  · exact hR.2.1.cg (fun x y h1 h2 => oh _ _ (by omega) (by omega) (by omega) (by omega) (by omega) (by omega)) (fr _ (by decide) (by decide) (by decide) (by decide) (by decide)) (fr _ (by decide) (by decide) (by decide) (by decide) (by decide)) (fr _ (by decide) (by decide) (by decide) (by decide) (by decide))
  · rw [oh _ _ (by omega) (by omega) (by omega) (by omega) (by omega) (by omega)]
    exact hi2
  · exact hR.2.2.2.2.1.cg (fun x y h1 h2 => oh _ _ (by omega) (by omega) (by omega) (by omega) (by omega) (by omega)) (fr _ (by decide) (by decide) (by decide) (by decide) (by decide)) (fr _ (by decide) (by decide) (by decide) (by decide) (by decide))
  · exact hR.2.2.2.2.2.cg (fun x y q => oh _ _ (by omega) (by omega) (by omega) (by omega) (by omega) (by omega)) (ew 0 27 (by decide) (by decide) (by decide) (by decide) (by omega)) (fr _ (by decide) (by decide) (by decide) (by decide) (by decide))
theorem p_isNoneI {H : Hv} {o : Nat} (ho : isHall o) : MtF M_X2_isNone 0 [.ref o] H (some (.int (b2i (H o 2 = 0)))) H := by
  have q := m_isNone (h := H) (g := vw H o) ho
  rw [pu_vw] at q
  exact q
def replH (h : Hv) (o : Nat) : Hv := hset (hset (pu h 15 (vw h o)) 39 1 0) 330 3 0
theorem m6_replaceHall {h : Hv} {o : Nat} (ho : isHall o) (hne : 15 ≠ o) : MtF M_X6_replaceHall 2 [.ref 0, .ref o] (h) (none) (replH h o) := by
  refine MtF.of [some (.ref 0), some (.ref o)] pl_X6 rfl rfl ?_
  refine g_aload_n d_X6_replaceHall_0 rfl ?_
  refine h_getR d_X6_replaceHall_1 fl_6_26 sp_L rfl ?_
  refine g_aload_n d_X6_replaceHall_4 rfl ?_
  refine h_V1v d_X6_replaceHall_5 cl_6_151 (m_become hall_15 ho hne) (sp_hall hall_15) (by decide) rfl (Nat.le_of_ble_eq_true rfl) (by decide) ?_
  refine g_aload_n d_X6_replaceHall_8 rfl ?_
  refine h_getR d_X6_replaceHall_9 fl_6_36 sp_L rfl ?_
  refine g_iconst d_X6_replaceHall_12 ik_0 ?_
  refine h_putI d_X6_replaceHall_13 fl_6_138 sp_Acts rfl ?_
  refine g_aload_n d_X6_replaceHall_16 rfl ?_
  refine h_getR d_X6_replaceHall_17 fl_6_47 sp_L rfl ?_
  refine h_V0v d_X6_replaceHall_20 cl_6_145 m_forget sp_Orders (by decide) rfl (Nat.le_of_ble_eq_true rfl) (by decide) ?_
  refine h_vret d_X6_replaceHall_23 rfl ?_
  exact ⟨rfl, rfl⟩
theorem repl_mu {h w : Hv} {o : Nat} (ho : o + 12 ≤ 360) : replH (mu h w) o = mu (replH h o) w := by
  unfold replH
  rw [mu_pu (by decide), mu_hset (by decide), mu_hset (by decide), pu_ext (g := vw (mu h w) o) (g' := vw h o) (fun j b hj => mu_low (by omega))]
theorem hv_repl {h : Hv} {o j b : Nat} (hj : j < 12) : hv (replH h o) 15 j b = hv h o j b := by
  rw [hv_at hj, hv_at hj]
  unfold replH
  rw [hs_j (by omega), hs_j (by omega), pu_at hj]
  rfl
theorem repl_out {h : Hv} {o x y : Nat} (h1 : ¬ (15 ≤ x ∧ x ≤ 26)) (h2 : ¬ (x = 39 ∧ y = 1)) (h3 : ¬ (x = 330 ∧ y = 3)) : replH h o x y = h x y := by
  unfold replH
  rw [hs_ne h3, hs_ne h2, pu_out (by omega)]
theorem repl_39 {h : Hv} {o : Nat} : replH h o 39 1 = 0 := by
  unfold replH
  rw [hs_j (by decide), hs_at]
theorem repl_330 {h : Hv} {o : Nat} : replH h o 330 3 = 0 := hs_at
theorem lp_restoreA {h w : Hv} {k : Nat} (hk : k < 2) {P : Option Value → Hv → Prop} (kx : GdH M_X7_restore 1 60 [some (.ref 360), some (.int (nI k)), some (.int (nI 17))] [] (mu h (reA w k 17)) P) : ∀ (n j : Nat), j + n = 17 → GdH M_X7_restore 1 31 [some (.ref 360), some (.int (nI k)), some (.int (nI j))] [] (mu h (reA w k j)) P := by
  intro n
  induction n with
  | zero =>
    intro j hj
    have hj' : j = 17 := by omega
    rw [hj']
    refine g_iload_n d_X7_restore_31 rfl ?_
    refine g_bipush d_X7_restore_32 bk_17 ?_
    refine g_icmp_ge d_X7_restore_34 (fun c34 => ?_) (fun c34 => absurd (nI_le (a := 17) (b := 17) (Nat.le_refl _) (by omega)) c34)
    exact kx
  | succ n ih =>
    intro j hj
    refine g_iload_n d_X7_restore_31 rfl ?_
    refine g_bipush d_X7_restore_32 bk_17 ?_
    refine g_icmp_ge d_X7_restore_34 (fun c34 => absurd c34 (nI_ge (a := j) (b := 17) (by omega) (by omega))) (fun c34 => ?_)
    refine g_aload_n d_X7_restore_37 rfl ?_
    refine h_getR d_X7_restore_38 fl_7_28 sp_M rfl ?_
    refine g_iload_n d_X7_restore_41 rfl ?_
    refine g_aload_n d_X7_restore_42 rfl ?_
    refine h_getR d_X7_restore_43 fl_7_46 sp_M rfl ?_
    refine g_bipush d_X7_restore_46 bk_59 ?_
    refine g_iload_n d_X7_restore_48 rfl ?_
    refine g_imul d_X7_restore_49 ?_
    refine g_iload_n d_X7_restore_50 rfl ?_
    refine g_iadd d_X7_restore_51 ?_
    refine mm_aldE (k := ((59 * k) + j)) d_X7_restore_52 (j := 13) sp_m_kept rfl (by decide) (nAdd (nMul rfl rfl) rfl) (by omega) (by decide) ?_
    refine mm_astE (k := j) d_X7_restore_53 (j := 7) sp_m_d rfl (by decide) rfl (by omega) (by decide) ?_
    refine w_iinc (L' := [_, _, _]) d_X7_restore_54 ik_1 rfl rfl rfl rfl ?_
    refine g_goto d_X7_restore_57 ?_
    have q := ih (j + 1) (by omega)
    rw [← reA_s] at q
    rw [nI_1]
    exact q
theorem lp_restoreB {h w : Hv} {k : Nat} (hk : k < 2) {P : Option Value → Hv → Prop} (kx : GdH M_X7_restore 1 94 [some (.ref 360), some (.int (nI k)), some (.int (nI 42))] [] (mu h (reB w k 42)) P) : ∀ (n j : Nat), j + n = 42 → GdH M_X7_restore 1 62 [some (.ref 360), some (.int (nI k)), some (.int (nI j))] [] (mu h (reB w k j)) P := by
  intro n
  induction n with
  | zero =>
    intro j hj
    have hj' : j = 42 := by omega
    rw [hj']
    refine g_iload_n d_X7_restore_62 rfl ?_
    refine g_bipush d_X7_restore_63 bk_42 ?_
    refine g_icmp_ge d_X7_restore_65 (fun c65 => ?_) (fun c65 => absurd (nI_le (a := 42) (b := 42) (Nat.le_refl _) (by omega)) c65)
    exact kx
  | succ n ih =>
    intro j hj
    refine g_iload_n d_X7_restore_62 rfl ?_
    refine g_bipush d_X7_restore_63 bk_42 ?_
    refine g_icmp_ge d_X7_restore_65 (fun c65 => absurd c65 (nI_ge (a := j) (b := 42) (by omega) (by omega))) (fun c65 => ?_)
    refine g_aload_n d_X7_restore_68 rfl ?_
    refine h_getR d_X7_restore_69 fl_7_31 sp_M rfl ?_
    refine g_iload_n d_X7_restore_72 rfl ?_
    refine g_aload_n d_X7_restore_73 rfl ?_
    refine h_getR d_X7_restore_74 fl_7_46 sp_M rfl ?_
    refine g_bipush d_X7_restore_77 bk_59 ?_
    refine g_iload_n d_X7_restore_79 rfl ?_
    refine g_imul d_X7_restore_80 ?_
    refine g_bipush d_X7_restore_81 bk_17 ?_
    refine g_iadd d_X7_restore_83 ?_
    refine g_iload_n d_X7_restore_84 rfl ?_
    refine g_iadd d_X7_restore_85 ?_
    refine mm_aldE (k := (((59 * k) + 17) + j)) d_X7_restore_86 (j := 13) sp_m_kept rfl (by decide) (nAdd (nAdd (nMul rfl rfl) rfl) rfl) (by omega) (by decide) ?_
    refine mm_astE (k := j) d_X7_restore_87 (j := 8) sp_m_s rfl (by decide) rfl (by omega) (by decide) ?_
    refine w_iinc (L' := [_, _, _]) d_X7_restore_88 ik_1 rfl rfl rfl rfl ?_
    refine g_goto d_X7_restore_91 ?_
    have q := ih (j + 1) (by omega)
    rw [← reB_s] at q
    rw [nI_1]
    exact q
theorem op_restore {h w : Hv} (hR : RelP h w) {x : Int32} : OPI M_X6_restore M_X7_restore 3 1 [.int x] (mu h w) := by
  refine MtH.of [some (.ref 0), some (.int x)] pl_X6 rfl rfl ?_
  refine g_iload_n d_X6_restore_0 rfl ?_
  refine g_if_lt d_X6_restore_1 (fun c1 => ?_) (fun c1 => ?_)
  · refine g_ldc d_X6_restore_9 kc_X6_66 ?_
    refine h_iret d_X6_restore_11 rfl ?_
    refine ⟨_, rfl, ?_⟩
    refine MtH.of [some (.ref 360), some (.int x), none] pl_X7 rfl rfl ?_
    refine g_aload_n d_X7_restore_0 rfl ?_
    refine g_iconst d_X7_restore_1 ik_0 ?_
    refine mm_putI d_X7_restore_2 fl_7_62 sp_M rfl ?_
    refine g_iload_n d_X7_restore_5 rfl ?_
    refine g_iconst d_X7_restore_6 ik_0 ?_
    refine g_iconst d_X7_restore_7 ik_1 ?_
    refine h_S3i d_X7_restore_8 cl_7_70 m7_in (Nat.le_of_ble_eq_true rfl) (by decide) ?_
    refine g_if_ne d_X7_restore_11 (fun c11 => ?_) (fun c11 => ?_)
    · exfalso
      simp only [b2i_eq0, b2i_ne0, Int32.lt_iff_toInt_lt, Int32.le_iff_toInt_le, t_0, t_1, t_2, t_3, t_4, t_5, t_6, t_7, t_8, t_9, t_10, t_11, t_12, t_20, t_24, t_40, t_50, t_60, t_99, t_110, t_255, t_999, t_999999, t_m1] at *
      omega
    · refine g_ldc d_X7_restore_14 kc_X7_78 ?_
      refine h_iret d_X7_restore_16 rfl ?_
      exact ⟨rfl, _, _, rfl, hR.fr fr_thrown⟩
  · refine g_iload_n d_X6_restore_4 rfl ?_
    refine g_iconst d_X6_restore_5 ik_2 ?_
    refine g_icmp_lt d_X6_restore_6 (fun c6 => ?_) (fun c6 => ?_)
    · obtain ⟨k, hk, rfl⟩ := rngI (x := x) (B := 2) (by simp only [b2i_eq0, b2i_ne0, Int32.lt_iff_toInt_lt, Int32.le_iff_toInt_le, t_0, t_1, t_2, t_3, t_4, t_5, t_6, t_7, t_8, t_9, t_10, t_11, t_12, t_20, t_24, t_40, t_50, t_60, t_99, t_110, t_255, t_999, t_999999, t_m1] at *; omega) (by simp only [b2i_eq0, b2i_ne0, Int32.lt_iff_toInt_lt, Int32.le_iff_toInt_le, t_0, t_1, t_2, t_3, t_4, t_5, t_6, t_7, t_8, t_9, t_10, t_11, t_12, t_20, t_24, t_40, t_50, t_60, t_99, t_110, t_255, t_999, t_999999, t_m1] at *; omega)
      have ek : (nI k).toInt = k := nI_toInt (by omega)
      have hIm := hR.2.2.2.2.1 k hk
      refine g_aload_n d_X6_restore_12 rfl ?_
      refine h_getR d_X6_restore_13 fl_6_40 sp_L rfl ?_
      refine g_iload_n d_X6_restore_16 rfl ?_
      refine h_aaldH d_X6_restore_17 sp_images (nI_pos (by omega)) (images_at hk) ?_
      refine h_V0i d_X6_restore_18 cl_6_154 (p_isNoneI (hall_img k hk)) (sp_hall (hall_img k hk)) (by decide) rfl (Nat.le_of_ble_eq_true rfl) (by decide) ?_
      refine g_if_eq d_X6_restore_21 (fun c21 => ?_) (fun c21 => ?_)
      · refine g_aload_n d_X6_restore_27 rfl ?_
        refine g_aload_n d_X6_restore_28 rfl ?_
        refine h_getR d_X6_restore_29 fl_6_40 sp_L rfl ?_
        refine g_iload_n d_X6_restore_32 rfl ?_
        refine h_aaldH d_X6_restore_33 sp_images (nI_pos (by omega)) (images_at hk) ?_
        refine h_V1v d_X6_restore_34 cl_6_128 (m6_replaceHall (hall_img k hk) (by omega)) sp_L (by decide) rfl (Nat.le_of_ble_eq_true rfl) (by decide) ?_
        refine g_iconst d_X6_restore_37 ik_1 ?_
        refine h_iret d_X6_restore_38 rfl ?_
        refine ⟨_, rfl, ?_⟩
        rw [repl_mu (by omega)]
        refine MtH.of [some (.ref 360), some (.int (nI k)), none] pl_X7 rfl rfl ?_
        refine g_aload_n d_X7_restore_0 rfl ?_
        refine g_iconst d_X7_restore_1 ik_0 ?_
        refine mm_putI d_X7_restore_2 fl_7_62 sp_M rfl ?_
        refine g_iload_n d_X7_restore_5 rfl ?_
        refine g_iconst d_X7_restore_6 ik_0 ?_
        refine g_iconst d_X7_restore_7 ik_1 ?_
        refine h_S3i d_X7_restore_8 cl_7_70 m7_in (Nat.le_of_ble_eq_true rfl) (by decide) ?_
        refine g_if_ne d_X7_restore_11 (fun c11 => ?_) (fun c11 => ?_)
        · refine g_aload_n d_X7_restore_17 rfl ?_
          refine h_getR d_X7_restore_18 fl_7_49 sp_M rfl ?_
          refine g_iload_n d_X7_restore_21 rfl ?_
          refine mm_zald d_X7_restore_22 (j := 14) sp_m_isKept rfl (by decide) (by exact in_nI hk) ?_
          refine g_if_ne d_X7_restore_23 (fun c23 => ?_) (fun c23 => ?_)
          · obtain ⟨z1, M, N, hS⟩ := hIm.resolve_left (fun z => b2i_eq0.mp c21 ((mu_low (by omega)).trans z.2))
            refine g_iconst d_X7_restore_29 ik_0 ?_
            refine w_istore_n (L' := [_, _, _]) d_X7_restore_30 rfl rfl rfl ?_
            rw [show hset w 0 0 0 = reA (hset w 0 0 0) k 0 from reA_0.symm]
            refine lp_restoreA hk ?_ 17 0 rfl
            refine g_iconst d_X7_restore_60 ik_0 ?_
            refine w_istore_n (L' := [_, _, _]) d_X7_restore_61 rfl rfl rfl ?_
            rw [show reA (hset w 0 0 0) k 17 = reB (reA (hset w 0 0 0) k 17) k 0 from reB_0.symm]
            refine lp_restoreB hk ?_ 42 0 rfl
            refine g_aload_n d_X7_restore_94 rfl ?_
            refine g_iconst d_X7_restore_95 ik_0 ?_
            refine mm_putI d_X7_restore_96 fl_7_149 sp_M rfl ?_
            refine g_iconst d_X7_restore_99 ik_1 ?_
            refine h_iret d_X7_restore_100 rfl ?_
            refine ⟨rfl, _, _, rfl, repl_end hR (HS.ext (g := hv h (336 + 12 * k)) (fun j b hj => hv_repl hj) (hS.mv (fun y hy => ?_) (fun y hy => ?_))) repl_39 repl_330 (fun x y a b c _ _ _ => repl_out a b c) (hR.2.2.1.cg (fun x y q => repl_out (by omega) (by omega) (by omega)) ?_ ?_ ?_) hs_at (fun x y a b _ _ e => ?_)⟩
            · rw [hs_j (by decide), reB_j (by decide), reA, if_pos ⟨rfl, hy⟩, hs_j (by decide)]
            · rw [hs_j (by decide), reB, if_pos ⟨rfl, hy⟩, reA_j (by decide), hs_j (by decide)]
            · rw [hs_b (by decide), reB_j (by decide), reA_j (by decide), hs_b (by decide)]
            · rw [hs_b (by decide), reB_j (by decide), reA_j (by decide), hs_b (by decide)]
            · funext y; rw [hs_j (by decide), reB_j (by decide), reA_j (by decide), hs_j (by decide)]
            · rw [hs_ne (by omega), reB_j b, reA_j a, hs_ne (by omega)]
          · rw [nI_clamp (by omega), hs_j (by decide)] at c23
            rcases hIm with z | ⟨z1, M, N, z2⟩
            · exact absurd ((mu_low (by omega)).trans z.2) (b2i_eq0.mp c21)
            · exact absurd (z1.symm.trans c23) (by decide)
        · exfalso
          simp only [b2i_eq0, b2i_ne0, Int32.lt_iff_toInt_lt, Int32.le_iff_toInt_le, t_0, t_1, t_2, t_3, t_4, t_5, t_6, t_7, t_8, t_9, t_10, t_11, t_12, t_20, t_24, t_40, t_50, t_60, t_99, t_110, t_255, t_999, t_999999, t_m1, ek] at *
          omega
      · refine g_ldc d_X6_restore_24 kc_X6_141 ?_
        refine h_iret d_X6_restore_26 rfl ?_
        refine ⟨_, rfl, ?_⟩
        refine MtH.of [some (.ref 360), some (.int (nI k)), none] pl_X7 rfl rfl ?_
        refine g_aload_n d_X7_restore_0 rfl ?_
        refine g_iconst d_X7_restore_1 ik_0 ?_
        refine mm_putI d_X7_restore_2 fl_7_62 sp_M rfl ?_
        refine g_iload_n d_X7_restore_5 rfl ?_
        refine g_iconst d_X7_restore_6 ik_0 ?_
        refine g_iconst d_X7_restore_7 ik_1 ?_
        refine h_S3i d_X7_restore_8 cl_7_70 m7_in (Nat.le_of_ble_eq_true rfl) (by decide) ?_
        refine g_if_ne d_X7_restore_11 (fun c11 => ?_) (fun c11 => ?_)
        · refine g_aload_n d_X7_restore_17 rfl ?_
          refine h_getR d_X7_restore_18 fl_7_49 sp_M rfl ?_
          refine g_iload_n d_X7_restore_21 rfl ?_
          refine mm_zald d_X7_restore_22 (j := 14) sp_m_isKept rfl (by decide) (by exact in_nI hk) ?_
          refine g_if_ne d_X7_restore_23 (fun c23 => ?_) (fun c23 => ?_)
          · rw [nI_clamp (by omega), hs_j (by decide)] at c23
            rcases hIm with z | ⟨z1, M, N, z2⟩
            · exact absurd z.1 c23
            · have e2 := b2i_ne0.mp c21
              rw [mu_low (by omega)] at e2
              have e3 := z2.1.hM
              rw [hv_at (by decide)] at e3
              exact absurd (e3.symm.trans e2) (nI_ne0 z2.1.hM0 (by have := z2.1.hM5; omega))
          · refine g_ldc d_X7_restore_26 kc_X7_194 ?_
            refine h_iret d_X7_restore_28 rfl ?_
            exact ⟨rfl, _, _, rfl, hR.fr fr_thrown⟩
        · exfalso
          simp only [b2i_eq0, b2i_ne0, Int32.lt_iff_toInt_lt, Int32.le_iff_toInt_le, t_0, t_1, t_2, t_3, t_4, t_5, t_6, t_7, t_8, t_9, t_10, t_11, t_12, t_20, t_24, t_40, t_50, t_60, t_99, t_110, t_255, t_999, t_999999, t_m1, ek] at *
          omega
    · refine g_ldc d_X6_restore_9 kc_X6_66 ?_
      refine h_iret d_X6_restore_11 rfl ?_
      refine ⟨_, rfl, ?_⟩
      refine MtH.of [some (.ref 360), some (.int x), none] pl_X7 rfl rfl ?_
      refine g_aload_n d_X7_restore_0 rfl ?_
      refine g_iconst d_X7_restore_1 ik_0 ?_
      refine mm_putI d_X7_restore_2 fl_7_62 sp_M rfl ?_
      refine g_iload_n d_X7_restore_5 rfl ?_
      refine g_iconst d_X7_restore_6 ik_0 ?_
      refine g_iconst d_X7_restore_7 ik_1 ?_
      refine h_S3i d_X7_restore_8 cl_7_70 m7_in (Nat.le_of_ble_eq_true rfl) (by decide) ?_
      refine g_if_ne d_X7_restore_11 (fun c11 => ?_) (fun c11 => ?_)
      · exfalso
        simp only [b2i_eq0, b2i_ne0, Int32.lt_iff_toInt_lt, Int32.le_iff_toInt_le, t_0, t_1, t_2, t_3, t_4, t_5, t_6, t_7, t_8, t_9, t_10, t_11, t_12, t_20, t_24, t_40, t_50, t_60, t_99, t_110, t_255, t_999, t_999999, t_m1] at *
        omega
      · refine g_ldc d_X7_restore_14 kc_X7_78 ?_
        refine h_iret d_X7_restore_16 rfl ?_
        exact ⟨rfl, _, _, rfl, hR.fr fr_thrown⟩
