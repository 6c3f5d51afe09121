/-! the reference: what it foretells of what is; sums and sets -/
def Rep0 (M N : Nat) (g w : Hv) (ja jb : Nat) : Prop :=
  (g 0 0 = w jb 1 ∧ g 0 1 = w jb 0 ∧ g 0 2 = w ja 0 ∧ g 0 3 = w ja 1 ∧ g 0 4 = w jb 2) ∧
  (∀ k, k < M → g 1 k = w ja (2 + k) ∧ g 2 k = w ja (7 + k) ∧ g 3 k = w ja (12 + k) ∧ g 4 k = w jb (3 + k) ∧ g 5 k = w jb (8 + k) ∧ g 6 k = w jb (13 + k)) ∧
  (∀ l, l < N → g 7 l = w jb (18 + l) ∧ g 8 l = w jb (24 + l) ∧ g 9 l = w jb (30 + l) ∧ (g 9 l = 2 → g 10 l = w jb (36 + l)))
theorem RepM.r0 {M N ja jb : Nat} {g w : Hv} (h : RepM M N g w ja jb) : Rep0 M N g w ja jb := ⟨h.1, h.2.1, h.2.2.1⟩
theorem Rep0.rm {M N ja jb : Nat} {g w : Hv} (h : Rep0 M N g w ja jb) (hr : ∀ j, j < N → g 11 j = w 11 j) : RepM M N g w ja jb := ⟨h.1, h.2.1, h.2.2, hr⟩
theorem Rep0.mv {M N ja jb ja' jb' : Nat} {g w w' : Hv} (h : Rep0 M N g w ja jb) (hM5 : M ≤ 5) (hN6 : N ≤ 6) (h1 : ∀ y, y < 17 → w' ja' y = w ja y) (h2 : ∀ y, y < 42 → w' jb' y = w jb y) : Rep0 M N g w' ja' jb' := by
  refine ⟨⟨?_, ?_, ?_, ?_, ?_⟩, fun k hk => ?_, fun l hl => ?_⟩
  · rw [h2 _ (by decide)]; exact h.1.1
  · rw [h2 _ (by decide)]; exact h.1.2.1
  · rw [h1 _ (by decide)]; exact h.1.2.2.1
  · rw [h1 _ (by decide)]; exact h.1.2.2.2.1
  · rw [h2 _ (by decide)]; exact h.1.2.2.2.2
  · rw [h1 _ (by omega), h1 _ (by omega), h1 _ (by omega), h2 _ (by omega), h2 _ (by omega), h2 _ (by omega)]; exact h.2.1 k hk
  · rw [h2 _ (by omega), h2 _ (by omega), h2 _ (by omega), h2 _ (by omega)]; exact h.2.2 l hl
/-- all but the scratch rows stays -/
def FrS (w w' : Hv) : Prop := ∀ x y, x ≠ 9 → x ≠ 10 → x ≠ 11 → x ≠ 16 → x ≠ 17 → ¬ (x = 0 ∧ y = 21) → w' x y = w x y
theorem FrS.rf {w : Hv} : FrS w w := fun _ _ _ _ _ _ _ _ => rfl
theorem FrS.tr {w w' w'' : Hv} (h1 : FrS w w') (h2 : FrS w' w'') : FrS w w'' := fun x y a b c d e f => (h2 x y a b c d e f).trans (h1 x y a b c d e f)
theorem FrM.fs {M : Nat} {w w' : Hv} (h : FrM M w w' 10) : FrS w w' := fun x y _ b _ _ _ f => h x y (Or.inl b) f
theorem FrS.set {w w' : Hv} {j y : Nat} {v : Int32} (h : FrS w w') (hj : j = 9 ∨ j = 10 ∨ j = 11 ∨ j = 16 ∨ j = 17) : FrS w (hset w' j y v) := fun a b h1 h2 h3 h4 h5 h6 => (hs_j (by omega)).trans (h a b h1 h2 h3 h4 h5 h6)
def nowR (w : Hv) : Hv := rkW (nowW w) 6
theorem now_fs {w : Hv} : FrS w (nowW w) := fun x y h9 h10 h11 _ _ h0 => by
  unfold nowW
  rw [hs_ne h0]
  unfold cpW
  rw [if_neg (fun q => h10 q.1), if_neg (fun q => h9 q.1)]
theorem rk_fs {w : Hv} {j : Nat} : FrS w (rkW w j) := fun x y _ _ h11 _ _ _ => if_neg (fun q => h11 q.1)
theorem nowR_fs {w : Hv} : FrS w (nowR w) := now_fs.tr rk_fs
theorem now_9 {w : Hv} {y : Nat} (hy : y < 17) : nowW w 9 y = w 7 y := by
  unfold nowW
  rw [hs_j (by decide)]
  unfold cpW
  rw [if_neg (by omega), if_pos ⟨rfl, hy⟩]
theorem now_10 {w : Hv} {y : Nat} (hy : y < 42) : nowW w 10 y = w 8 y := by
  unfold nowW
  rw [hs_j (by decide)]
  unfold cpW
  rw [if_pos ⟨rfl, hy⟩, if_neg (by omega)]
theorem now_dry {w : Hv} : nowW w 0 21 = 0 := hs_at
theorem rkW_j {w : Hv} {j x y : Nat} (hx : x ≠ 11) : rkW w j x y = w x y := if_neg (fun q => hx q.1)
theorem rkW_at {w : Hv} {j y : Nat} (hy : y < j) : rkW w j 11 y = nI y := if_pos ⟨rfl, hy⟩
theorem rep_now {M N : Nat} {g w : Hv} (h : Rep0 M N g w 7 8) (hM5 : M ≤ 5) (hN6 : N ≤ 6) (hr : ∀ j, j < N → g 11 j = nI j) : RepM M N g (nowR w) 9 10 := by
  refine Rep0.rm (h.mv hM5 hN6 (fun y hy => ?_) (fun y hy => ?_)) (fun j hj => ?_)
  · rw [nowR, rkW_j (by decide), now_9 hy]
  · rw [nowR, rkW_j (by decide), now_10 hy]
  · rw [hr j hj, nowR, rkW_at (by omega)]
def PA (h w : Hv) (M N : Nat) (g' : Hv) (c : Int32) : Option Value → Hv → Prop := fun v' h' => v' = none ∧ ∃ w', h' = mu h w' ∧ RepM M N g' w' 9 10 ∧ FrS w w' ∧ w' 0 21 = c
theorem m7_goesAhead {h w g : Hv} {M N : Nat} (hR : Rep0 M N g w 7 8) (hI : HI M N g) (hr : ∀ j, j < N → g 11 j = nI j) {z : Int32} {n : Nat} (ez : z = nI n) (hn : n < 2 ^ 30) : MtH M_X7_goesAhead 4 [.ref 360, .int z] (mu h w) (PA h w M N (tickN M N n g) (drN M N n g)) := by
  subst ez
  refine MtH.of [some (.ref 360), some (.int (nI n))] pl_X7 rfl rfl ?_
  refine g_aload_n d_X7_goesAhead_0 rfl ?_
  refine h_V0v d_X7_goesAhead_1 cl_7_178 m7_asNow sp_M (by decide) rfl (Nat.le_of_ble_eq_true rfl) (by decide) ?_
  refine g_aload_n d_X7_goesAhead_4 rfl ?_
  refine h_V0v d_X7_goesAhead_5 cl_7_181 m7_ranksByNumber sp_M (by decide) rfl (Nat.le_of_ble_eq_true rfl) (by decide) ?_
  refine g_aload_n d_X7_goesAhead_8 rfl ?_
  refine g_iload_n d_X7_goesAhead_9 rfl ?_
  refine h_V1P d_X7_goesAhead_10 cl_7_184 (m7_foretells (rep_now hR hI.hM5 hI.hN6 hr) hI rfl hn) sp_M (by decide) rfl (Nat.le_of_ble_eq_true rfl) (by decide) ?_
  intro v' h' hp
  obtain ⟨rfl, w2, rfl, hr2, hf2, hd2⟩ := hp
  refine h_vret d_X7_goesAhead_13 rfl ?_
  exact ⟨rfl, w2, rfl, hr2, nowR_fs.tr hf2.fs, by rw [hd2, show nowR w 0 21 = 0 from (rkW_j (by decide)).trans now_dry, Int32.zero_add]⟩
theorem lateS_eq {v : Int32} : (if 0 < v then v else 0) = if 0 ≤ v then v else 0 := by
  by_cases h : 0 < v
  · rw [if_pos h, if_pos (Int32.le_of_lt h)]
  · rw [if_neg h]
    by_cases h2 : 0 ≤ v
    · rw [if_pos h2]
      rcases Int32.lt_or_eq_of_le h2 with q | q
      · exact absurd q h
      · exact q
    · rw [if_neg h2]
theorem m7_lateOf {h w g : Hv} {M N ja jb a : Nat} (ha : AR a jb 42) (hR : Rep0 M N g w ja jb) (hN6 : N ≤ 6) {l : Nat} (hl : l < N) {x : Int32} (ex : x = nI l) : MtF M_X7_lateOf 0 [.ref a, .int x] (mu h w) (some (.int (lateS g l))) (mu h w) := by
  subst ex
  refine MtF.of [some (.ref a), some (.int (nI l)), none] pl_X7 rfl rfl ?_
  refine g_aload_n d_X7_lateOf_0 rfl ?_
  refine g_bipush d_X7_lateOf_1 bk_30 ?_
  refine g_iload_n d_X7_lateOf_3 rfl ?_
  refine g_iadd d_X7_lateOf_4 ?_
  refine mm_aldV (k := (30 + l)) (v := g 9 l) d_X7_lateOf_5 ha.1 ha.2.1 ha.2.2 (nAdd rfl rfl) (by omega) (by decide) ((hR.2.2 l hl).2.2.1.symm) ?_
  refine g_iconst d_X7_lateOf_6 ik_2 ?_
  refine g_icmp_ne d_X7_lateOf_7 (fun c7 => ?_) (fun c7 => ?_)
  · refine g_aload_n d_X7_lateOf_19 rfl ?_
    refine g_iconst d_X7_lateOf_20 ik_0 ?_
    refine mm_aldV (k := 0) (v := g 0 1) d_X7_lateOf_21 ha.1 ha.2.1 ha.2.2 rfl (by omega) (by decide) (hR.1.2.1.symm) ?_
    refine g_aload_n d_X7_lateOf_22 rfl ?_
    refine g_bipush d_X7_lateOf_23 bk_24 ?_
    refine g_iload_n d_X7_lateOf_25 rfl ?_
    refine g_iadd d_X7_lateOf_26 ?_
    refine mm_aldV (k := (24 + l)) (v := g 8 l) d_X7_lateOf_27 ha.1 ha.2.1 ha.2.2 (nAdd rfl rfl) (by omega) (by decide) ((hR.2.2 l hl).2.1.symm) ?_
    refine g_isub d_X7_lateOf_28 ?_
    refine w_istore_n (L' := [_, _, _]) d_X7_lateOf_29 rfl rfl rfl ?_
    refine g_iload_n d_X7_lateOf_30 rfl ?_
    refine g_if_ge d_X7_lateOf_31 (fun c31 => ?_) (fun c31 => ?_)
    · refine g_iload_n d_X7_lateOf_38 rfl ?_
      refine h_iret d_X7_lateOf_39 rfl ?_
      exact pF (by rw [lateS, lateS_eq]; first | rw [if_pos c7, if_pos c31] | rw [if_pos c7, if_neg c31] | rw [if_neg c7, if_pos c31] | rw [if_neg c7, if_neg c31]) rfl
    · refine g_iconst d_X7_lateOf_34 ik_0 ?_
      refine g_goto d_X7_lateOf_35 ?_
      refine h_iret d_X7_lateOf_39 rfl ?_
      exact pF (by rw [lateS, lateS_eq]; first | rw [if_pos c7, if_pos c31] | rw [if_pos c7, if_neg c31] | rw [if_neg c7, if_pos c31] | rw [if_neg c7, if_neg c31]) rfl
  · refine g_aload_n d_X7_lateOf_10 rfl ?_
    refine g_bipush d_X7_lateOf_11 bk_36 ?_
    refine g_iload_n d_X7_lateOf_13 rfl ?_
    refine g_iadd d_X7_lateOf_14 ?_
    refine mm_aldV (k := (36 + l)) (v := g 10 l) d_X7_lateOf_15 ha.1 ha.2.1 ha.2.2 (nAdd rfl rfl) (by omega) (by decide) (((hR.2.2 l hl).2.2.2 c7).symm) ?_
    refine g_goto d_X7_lateOf_16 ?_
    refine g_aload_n d_X7_lateOf_22 rfl ?_
    refine g_bipush d_X7_lateOf_23 bk_24 ?_
    refine g_iload_n d_X7_lateOf_25 rfl ?_
    refine g_iadd d_X7_lateOf_26 ?_
    refine mm_aldV (k := (24 + l)) (v := g 8 l) d_X7_lateOf_27 ha.1 ha.2.1 ha.2.2 (nAdd rfl rfl) (by omega) (by decide) ((hR.2.2 l hl).2.1.symm) ?_
    refine g_isub d_X7_lateOf_28 ?_
    refine w_istore_n (L' := [_, _, _]) d_X7_lateOf_29 rfl rfl rfl ?_
    refine g_iload_n d_X7_lateOf_30 rfl ?_
    refine g_if_ge d_X7_lateOf_31 (fun c31 => ?_) (fun c31 => ?_)
    · refine g_iload_n d_X7_lateOf_38 rfl ?_
      refine h_iret d_X7_lateOf_39 rfl ?_
      exact pF (by rw [lateS, lateS_eq]; first | rw [if_pos c7, if_pos c31] | rw [if_pos c7, if_neg c31] | rw [if_neg c7, if_pos c31] | rw [if_neg c7, if_neg c31]) rfl
    · refine g_iconst d_X7_lateOf_34 ik_0 ?_
      refine g_goto d_X7_lateOf_35 ?_
      refine h_iret d_X7_lateOf_39 rfl ?_
      exact pF (by rw [lateS, lateS_eq]; first | rw [if_pos c7, if_pos c31] | rw [if_pos c7, if_neg c31] | rw [if_neg c7, if_pos c31] | rw [if_neg c7, if_neg c31]) rfl
theorem lp_lateAll {h w g : Hv} {M N ja jb a : Nat} (ha : AR a jb 42) (hR : Rep0 M N g w ja jb) (hN6 : N ≤ 6) (h71 : w 7 1 = nI N) {P : Option Value → Hv → Prop} (kx : GdH M_X7_lateAll 1 28 [some (.ref 360), some (.ref a), some (.int (lateAllS g N)), some (.int (nI N))] [] (mu h w) P) : ∀ (n j : Nat), j + n = N → GdH M_X7_lateAll 1 4 [some (.ref 360), some (.ref a), some (.int (lateAllS g j)), some (.int (nI j))] [] (mu h w) P := by
  intro n
  induction n with
  | zero =>
    intro j hj
    have hj' : j = N := by omega
    rw [hj']
    refine g_iload_n d_X7_lateAll_4 rfl ?_
    refine g_aload_n d_X7_lateAll_5 rfl ?_
    refine h_getR d_X7_lateAll_6 fl_7_28 sp_M rfl ?_
    refine g_iconst d_X7_lateAll_9 ik_1 ?_
    refine mm_aldV (k := 1) (v := nI N) d_X7_lateAll_10 (j := 7) sp_m_d rfl (by decide) rfl (by omega) (by decide) (h71) ?_
    refine g_icmp_ge d_X7_lateAll_11 (fun c11 => ?_) (fun c11 => absurd (nI_le (a := N) (b := N) (Nat.le_refl _) (by omega)) c11)
    exact kx
  | succ n ih =>
    intro j hj
    refine g_iload_n d_X7_lateAll_4 rfl ?_
    refine g_aload_n d_X7_lateAll_5 rfl ?_
    refine h_getR d_X7_lateAll_6 fl_7_28 sp_M rfl ?_
    refine g_iconst d_X7_lateAll_9 ik_1 ?_
    refine mm_aldV (k := 1) (v := nI N) d_X7_lateAll_10 (j := 7) sp_m_d rfl (by decide) rfl (by omega) (by decide) (h71) ?_
    refine g_icmp_ge d_X7_lateAll_11 (fun c11 => absurd c11 (nI_ge (a := j) (b := N) (by omega) (by omega))) (fun c11 => ?_)
    refine g_iload_n d_X7_lateAll_14 rfl ?_
    refine g_aload_n d_X7_lateAll_15 rfl ?_
    refine g_iload_n d_X7_lateAll_16 rfl ?_
    refine h_S2i d_X7_lateAll_17 cl_7_187 (m7_lateOf ha hR hN6 (l := j) (by omega) rfl) (Nat.le_of_ble_eq_true rfl) (by decide) ?_
    refine g_iadd d_X7_lateAll_20 ?_
    refine w_istore_n (L' := [_, _, _, _]) d_X7_lateAll_21 rfl rfl rfl ?_
    refine w_iinc (L' := [_, _, _, _]) d_X7_lateAll_22 ik_1 rfl rfl rfl rfl ?_
    refine g_goto d_X7_lateAll_25 ?_
    have q := ih (j + 1) (by omega)
    rw [lateAllS] at q
    rw [nI_1]
    exact q
theorem m7_lateAll {h w g : Hv} {M N ja jb a : Nat} (ha : AR a jb 42) (hR : Rep0 M N g w ja jb) (hN6 : N ≤ 6) (h71 : w 7 1 = nI N) : MtF M_X7_lateAll 1 [.ref 360, .ref a] (mu h w) (some (.int (lateAllS g N))) (mu h w) := by
  refine MtF.of [some (.ref 360), some (.ref a), none, none] pl_X7 rfl rfl ?_
  refine g_iconst d_X7_lateAll_0 ik_0 ?_
  refine w_istore_n (L' := [_, _, _, _]) d_X7_lateAll_1 rfl rfl rfl ?_
  refine g_iconst d_X7_lateAll_2 ik_0 ?_
  refine w_istore_n (L' := [_, _, _, _]) d_X7_lateAll_3 rfl rfl rfl ?_
  refine lp_lateAll ha hR hN6 h71 ?_ N 0 (by omega)
  refine g_iload_n d_X7_lateAll_28 rfl ?_
  refine h_iret d_X7_lateAll_29 rfl ?_
  exact ⟨rfl, rfl⟩
theorem lp_howAll {h w g : Hv} {M N ja jb a : Nat} (ha : AR a jb 42) (hR : Rep0 M N g w ja jb) (hN6 : N ≤ 6) (h71 : w 7 1 = nI N) {v : Int32} {P : Option Value → Hv → Prop} (kx : GdH M_X7_howAll 0 44 [some (.ref 360), some (.ref a), some (.int v), some (.int (whS g v N)), some (.int (nI N))] [] (mu h w) P) : ∀ (n j : Nat), j + n = N → GdH M_X7_howAll 0 5 [some (.ref 360), some (.ref a), some (.int v), some (.int (whS g v j)), some (.int (nI j))] [] (mu h w) P := by
  intro n
  induction n with
  | zero =>
    intro j hj
    have hj' : j = N := by omega
    rw [hj']
    refine g_iload d_X7_howAll_5 rfl ?_
    refine g_aload_n d_X7_howAll_7 rfl ?_
    refine h_getR d_X7_howAll_8 fl_7_28 sp_M rfl ?_
    refine g_iconst d_X7_howAll_11 ik_1 ?_
    refine mm_aldV (k := 1) (v := nI N) d_X7_howAll_12 (j := 7) sp_m_d rfl (by decide) rfl (by omega) (by decide) (h71) ?_
    refine g_icmp_ge d_X7_howAll_13 (fun c13 => ?_) (fun c13 => absurd (nI_le (a := N) (b := N) (Nat.le_refl _) (by omega)) c13)
    exact kx
  | succ n ih =>
    intro j hj
    refine g_iload d_X7_howAll_5 rfl ?_
    refine g_aload_n d_X7_howAll_7 rfl ?_
    refine h_getR d_X7_howAll_8 fl_7_28 sp_M rfl ?_
    refine g_iconst d_X7_howAll_11 ik_1 ?_
    refine mm_aldV (k := 1) (v := nI N) d_X7_howAll_12 (j := 7) sp_m_d rfl (by decide) rfl (by omega) (by decide) (h71) ?_
    refine g_icmp_ge d_X7_howAll_13 (fun c13 => absurd c13 (nI_ge (a := j) (b := N) (by omega) (by omega))) (fun c13 => ?_)
    refine g_iload_n d_X7_howAll_16 rfl ?_
    refine g_aload_n d_X7_howAll_17 rfl ?_
    refine g_bipush d_X7_howAll_18 bk_30 ?_
    refine g_iload d_X7_howAll_20 rfl ?_
    refine g_iadd d_X7_howAll_22 ?_
    refine mm_aldV (k := (30 + j)) (v := g 9 j) d_X7_howAll_23 ha.1 ha.2.1 ha.2.2 (nAdd rfl rfl) (by omega) (by decide) ((hR.2.2 j (by omega)).2.2.1.symm) ?_
    refine g_iload_n d_X7_howAll_24 rfl ?_
    refine g_icmp_ne d_X7_howAll_25 (fun c25 => ?_) (fun c25 => ?_)
    · refine g_iconst d_X7_howAll_35 ik_0 ?_
      refine g_ior d_X7_howAll_36 ?_
      refine w_istore_n (L' := [_, _, _, _, _]) d_X7_howAll_37 rfl rfl rfl ?_
      refine w_iinc (L' := [_, _, _, _, _]) d_X7_howAll_38 ik_1 rfl rfl rfl rfl ?_
      refine g_goto d_X7_howAll_41 ?_
      have q := ih (j + 1) (by omega)
      first | rw [whS, if_pos c25] at q | rw [whS, if_neg c25, ← Int32.or_zero (a := whS g v j)] at q
      rw [nI_1]
      exact q
    · refine g_iconst d_X7_howAll_28 ik_1 ?_
      refine g_iload d_X7_howAll_29 rfl ?_
      refine g_ishl d_X7_howAll_31 ?_
      refine g_goto d_X7_howAll_32 ?_
      refine g_ior d_X7_howAll_36 ?_
      refine w_istore_n (L' := [_, _, _, _, _]) d_X7_howAll_37 rfl rfl rfl ?_
      refine w_iinc (L' := [_, _, _, _, _]) d_X7_howAll_38 ik_1 rfl rfl rfl rfl ?_
      refine g_goto d_X7_howAll_41 ?_
      have q := ih (j + 1) (by omega)
      first | rw [whS, if_pos c25] at q | rw [whS, if_neg c25, ← Int32.or_zero (a := whS g v j)] at q
      rw [nI_1]
      exact q
theorem m7_howAll {h w g : Hv} {M N ja jb a : Nat} (ha : AR a jb 42) (hR : Rep0 M N g w ja jb) (hN6 : N ≤ 6) (h71 : w 7 1 = nI N) {v : Int32} : MtF M_X7_howAll 0 [.ref 360, .ref a, .int v] (mu h w) (some (.int (whS g v N))) (mu h w) := by
  refine MtF.of [some (.ref 360), some (.ref a), some (.int v), none, none] pl_X7 rfl rfl ?_
  refine g_iconst d_X7_howAll_0 ik_0 ?_
  refine w_istore_n (L' := [_, _, _, _, _]) d_X7_howAll_1 rfl rfl rfl ?_
  refine g_iconst d_X7_howAll_2 ik_0 ?_
  refine w_istore (L' := [_, _, _, _, _]) d_X7_howAll_3 rfl rfl rfl ?_
  refine lp_howAll ha hR hN6 h71 ?_ N 0 (by omega)
  refine g_iload_n d_X7_howAll_44 rfl ?_
  refine h_iret d_X7_howAll_45 rfl ?_
  exact ⟨rfl, rfl⟩
theorem all_ones : ∀ n, n ≤ 6 → ∀ x, x < 2 ^ n → (nI x = (1 <<< (nI n &&& 31)) - 1 ↔ popN x = n) := by decide +kernel
theorem m7_isAllDry {h w g : Hv} {M N ja : Nat} (hR : Rep0 M N g w ja 10) (hN6 : N ≤ 6) (h71 : w 7 1 = nI N) : MtF M_X7_isAllDry 1 [.ref 360] (mu h w) (some (.int (b2i (cntS g 2 N = N)))) (mu h w) := by
  have hq := all_ones N hN6 (whN g 2 N) (whN_lt g 2 N)
  rw [← whS_eq g 2 N hN6, cntS_eq g 2 N hN6] at hq
  refine MtF.of [some (.ref 360)] pl_X7 rfl rfl ?_
  refine g_aload_n d_X7_isAllDry_0 rfl ?_
  refine g_aload_n d_X7_isAllDry_1 rfl ?_
  refine h_getR d_X7_isAllDry_2 fl_7_37 sp_M rfl ?_
  refine g_iconst d_X7_isAllDry_5 ik_2 ?_
  refine h_V2i d_X7_isAllDry_6 cl_7_191 (m7_howAll ar_w hR hN6 h71) sp_M (by decide) rfl (Nat.le_of_ble_eq_true rfl) (by decide) ?_
  refine g_iconst d_X7_isAllDry_9 ik_1 ?_
  refine g_aload_n d_X7_isAllDry_10 rfl ?_
  refine h_getR d_X7_isAllDry_11 fl_7_28 sp_M rfl ?_
  refine g_iconst d_X7_isAllDry_14 ik_1 ?_
  refine mm_aldV (k := 1) (v := nI N) d_X7_isAllDry_15 (j := 7) sp_m_d rfl (by decide) rfl (by omega) (by decide) (h71) ?_
  refine g_ishl d_X7_isAllDry_16 ?_
  refine g_iconst d_X7_isAllDry_17 ik_1 ?_
  refine g_isub d_X7_isAllDry_18 ?_
  refine g_icmp_ne d_X7_isAllDry_19 (fun c19 => ?_) (fun c19 => ?_)
  · refine g_iconst d_X7_isAllDry_26 ik_0 ?_
    refine h_zret d_X7_isAllDry_27 rfl rfl ?_
    exact pF (by first | rw [b2i_t (hq.mp c19)] | rw [b2i_f (fun z => c19 (hq.mpr z))]) rfl
  · refine g_iconst d_X7_isAllDry_22 ik_1 ?_
    refine g_goto d_X7_isAllDry_23 ?_
    refine h_zret d_X7_isAllDry_27 rfl rfl ?_
    exact pF (by first | rw [b2i_t (hq.mp c19)] | rw [b2i_f (fun z => c19 (hq.mpr z))]) rfl
theorem lp_withLoads {h w g : Hv} {M N : Nat} (hR : Rep0 M N g w 7 8) (hI : HI M N g) {P : Option Value → Hv → Prop} (kx : GdH M_X7_withLoads 0 41 [some (.ref 360), some (.int (busyS g M)), some (.int (nI M))] [] (mu h w) P) : ∀ (n j : Nat), j + n = M → GdH M_X7_withLoads 0 4 [some (.ref 360), some (.int (busyS g j)), some (.int (nI j))] [] (mu h w) P := by
  have hM5 := hI.hM5
  intro n
  induction n with
  | zero =>
    intro j hj
    have hj' : j = M := by omega
    rw [hj']
    refine g_iload_n d_X7_withLoads_4 rfl ?_
    refine g_aload_n d_X7_withLoads_5 rfl ?_
    refine h_getR d_X7_withLoads_6 fl_7_28 sp_M rfl ?_
    refine g_iconst d_X7_withLoads_9 ik_0 ?_
    refine mm_aldV (k := 0) (v := nI M) d_X7_withLoads_10 (j := 7) sp_m_d rfl (by decide) rfl (by omega) (by decide) (hR.1.2.2.1.symm.trans hI.hM) ?_
    refine g_icmp_ge d_X7_withLoads_11 (fun c11 => ?_) (fun c11 => absurd (nI_le (a := M) (b := M) (Nat.le_refl _) (by omega)) c11)
    exact kx
  | succ n ih =>
    intro j hj
    have hin := bz_m1 (hI.in4 (k := j) (by omega)) hI.hN6
    refine g_iload_n d_X7_withLoads_4 rfl ?_
    refine g_aload_n d_X7_withLoads_5 rfl ?_
    refine h_getR d_X7_withLoads_6 fl_7_28 sp_M rfl ?_
    refine g_iconst d_X7_withLoads_9 ik_0 ?_
    refine mm_aldV (k := 0) (v := nI M) d_X7_withLoads_10 (j := 7) sp_m_d rfl (by decide) rfl (by omega) (by decide) (hR.1.2.2.1.symm.trans hI.hM) ?_
    refine g_icmp_ge d_X7_withLoads_11 (fun c11 => absurd c11 (nI_ge (a := j) (b := M) (by omega) (by omega))) (fun c11 => ?_)
    refine g_iload_n d_X7_withLoads_14 rfl ?_
    refine g_aload_n d_X7_withLoads_15 rfl ?_
    refine h_getR d_X7_withLoads_16 fl_7_31 sp_M rfl ?_
    refine g_iconst d_X7_withLoads_19 ik_3 ?_
    refine g_iload_n d_X7_withLoads_20 rfl ?_
    refine g_iadd d_X7_withLoads_21 ?_
    refine mm_aldV (k := (3 + j)) (v := g 4 j) d_X7_withLoads_22 (j := 8) sp_m_s rfl (by decide) (nAdd rfl rfl) (by omega) (by decide) ((hR.2.1 j (by omega)).2.2.2.1.symm) ?_
    refine g_if_lt d_X7_withLoads_23 (fun c23 => ?_) (fun c23 => ?_)
    · refine g_iconst d_X7_withLoads_32 ik_0 ?_
      refine g_ior d_X7_withLoads_33 ?_
      refine w_istore_n (L' := [_, _, _]) d_X7_withLoads_34 rfl rfl rfl ?_
      refine w_iinc (L' := [_, _, _]) d_X7_withLoads_35 ik_1 rfl rfl rfl rfl ?_
      refine g_goto d_X7_withLoads_38 ?_
      have q := ih (j + 1) (by omega)
      first | rw [busyS, if_pos (hin.mp c23), ← Int32.or_zero (a := busyS g j)] at q | rw [busyS, if_neg (fun z => c23 (hin.mpr z))] at q
      rw [nI_1]
      exact q
    · refine g_iconst d_X7_withLoads_26 ik_1 ?_
      refine g_iload_n d_X7_withLoads_27 rfl ?_
      refine g_ishl d_X7_withLoads_28 ?_
      refine g_goto d_X7_withLoads_29 ?_
      refine g_ior d_X7_withLoads_33 ?_
      refine w_istore_n (L' := [_, _, _]) d_X7_withLoads_34 rfl rfl rfl ?_
      refine w_iinc (L' := [_, _, _]) d_X7_withLoads_35 ik_1 rfl rfl rfl rfl ?_
      refine g_goto d_X7_withLoads_38 ?_
      have q := ih (j + 1) (by omega)
      first | rw [busyS, if_pos (hin.mp c23), ← Int32.or_zero (a := busyS g j)] at q | rw [busyS, if_neg (fun z => c23 (hin.mpr z))] at q
      rw [nI_1]
      exact q
theorem m7_withLoads {h w g : Hv} {M N : Nat} (hR : Rep0 M N g w 7 8) (hI : HI M N g) : MtF M_X7_withLoads 0 [.ref 360] (mu h w) (some (.int (busyS g M))) (mu h w) := by
  refine MtF.of [some (.ref 360), none, none] pl_X7 rfl rfl ?_
  refine g_iconst d_X7_withLoads_0 ik_0 ?_
  refine w_istore_n (L' := [_, _, _]) d_X7_withLoads_1 rfl rfl rfl ?_
  refine g_iconst d_X7_withLoads_2 ik_0 ?_
  refine w_istore_n (L' := [_, _, _]) d_X7_withLoads_3 rfl rfl rfl ?_
  refine lp_withLoads hR hI ?_ M 0 (by omega)
  refine g_iload_n d_X7_withLoads_41 rfl ?_
  refine h_iret d_X7_withLoads_42 rfl ?_
  exact ⟨rfl, rfl⟩
theorem doneS_ext {M : Nat} {g : Hv} : ∀ n, M ≤ n → n ≤ 5 → doneS (fun x y => if x = 6 ∧ M ≤ y then 0 else g x y) n = doneS g M := by
  have h0 : ∀ m, m ≤ M → doneS (fun x y => if x = 6 ∧ M ≤ y then 0 else g x y) m = doneS g m := by
    intro m
    induction m with
    | zero => intro _; rfl
    | succ m ih => intro hm; rw [doneS, doneS, ih (by omega), if_neg (by omega)]
  intro n
  induction n with
  | zero => intro h _; rw [show M = 0 by omega]; rfl
  | succ n ih =>
    intro h1 h2
    rcases Nat.lt_or_ge n M with q | q
    · rw [show n + 1 = M by omega]; exact h0 M (Nat.le_refl M)
    · rw [doneS, ih q (by omega), if_pos ⟨rfl, q⟩, Int32.add_zero]
theorem lp_doneAll {h w g : Hv} (hg : ∀ k, k < 5 → w 8 (13 + k) = g 6 k) {P : Option Value → Hv → Prop} (kx : GdH M_X7_doneAll 0 27 [some (.ref 360), some (.int (doneS g 5)), some (.int (nI 5))] [] (mu h w) P) : ∀ (n j : Nat), j + n = 5 → GdH M_X7_doneAll 0 4 [some (.ref 360), some (.int (doneS g j)), some (.int (nI j))] [] (mu h w) P := by
  intro n
  induction n with
  | zero =>
    intro j hj
    have hj' : j = 5 := by omega
    rw [hj']
    refine g_iload_n d_X7_doneAll_4 rfl ?_
    refine g_iconst d_X7_doneAll_5 ik_5 ?_
    refine g_icmp_ge d_X7_doneAll_6 (fun c6 => ?_) (fun c6 => absurd (nI_le (a := 5) (b := 5) (Nat.le_refl _) (by omega)) c6)
    exact kx
  | succ n ih =>
    intro j hj
    refine g_iload_n d_X7_doneAll_4 rfl ?_
    refine g_iconst d_X7_doneAll_5 ik_5 ?_
    refine g_icmp_ge d_X7_doneAll_6 (fun c6 => absurd c6 (nI_ge (a := j) (b := 5) (by omega) (by omega))) (fun c6 => ?_)
    refine g_iload_n d_X7_doneAll_9 rfl ?_
    refine g_aload_n d_X7_doneAll_10 rfl ?_
    refine h_getR d_X7_doneAll_11 fl_7_31 sp_M rfl ?_
    refine g_bipush d_X7_doneAll_14 bk_13 ?_
    refine g_iload_n d_X7_doneAll_16 rfl ?_
    refine g_iadd d_X7_doneAll_17 ?_
    refine mm_aldV (k := (13 + j)) (v := g 6 j) d_X7_doneAll_18 (j := 8) sp_m_s rfl (by decide) (nAdd rfl rfl) (by omega) (by decide) (hg j (by omega)) ?_
    refine g_iadd d_X7_doneAll_19 ?_
    refine w_istore_n (L' := [_, _, _]) d_X7_doneAll_20 rfl rfl rfl ?_
    refine w_iinc (L' := [_, _, _]) d_X7_doneAll_21 ik_1 rfl rfl rfl rfl ?_
    refine g_goto d_X7_doneAll_24 ?_
    have q := ih (j + 1) (by omega)
    rw [doneS] at q
    rw [nI_1]
    exact q
theorem m7_doneAll {h w g : Hv} {M N : Nat} (hR : Rep0 M N g w 7 8) (hI : HI M N g) (hz : ∀ k, M ≤ k → k < 5 → w 8 (13 + k) = 0) : MtF M_X7_doneAll 0 [.ref 360] (mu h w) (some (.int (doneS g M))) (mu h w) := by
  have hg : ∀ k, k < 5 → w 8 (13 + k) = (fun x y => if x = 6 ∧ M ≤ y then 0 else g x y : Hv) 6 k := by
    intro k hk
    dsimp only
    by_cases q : M ≤ k
    · rw [if_pos ⟨rfl, q⟩]; exact hz k q hk
    · rw [if_neg (fun z => q z.2)]; exact (hR.2.1 k (by omega)).2.2.2.2.2.symm
  have he := doneS_ext (M := M) (g := g) 5 hI.hM5 (Nat.le_refl 5)
  refine MtF.of [some (.ref 360), none, none] pl_X7 rfl rfl ?_
  refine g_iconst d_X7_doneAll_0 ik_0 ?_
  refine w_istore_n (L' := [_, _, _]) d_X7_doneAll_1 rfl rfl rfl ?_
  refine g_iconst d_X7_doneAll_2 ik_0 ?_
  refine w_istore_n (L' := [_, _, _]) d_X7_doneAll_3 rfl rfl rfl ?_
  refine lp_doneAll (g := fun x y => if x = 6 ∧ M ≤ y then 0 else g x y) hg ?_ 5 0 rfl
  refine g_iload_n d_X7_doneAll_27 rfl ?_
  refine h_iret d_X7_doneAll_28 rfl ?_
  exact pF (by rw [he]) rfl
