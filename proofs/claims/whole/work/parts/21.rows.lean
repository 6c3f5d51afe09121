/-! ROWS -/
theorem sp_item {r : Nat} (h : r < 8) : SP[5 + r]? = some (8, List.replicate 40 none) := by
  rcases (show r = 0 ∨ r = 1 ∨ r = 2 ∨ r = 3 ∨ r = 4 ∨ r = 5 ∨ r = 6 ∨ r = 7 by omega) with rfl | rfl | rfl | rfl | rfl | rfl | rfl | rfl
  · exact sp_item0
  · exact sp_item1
  · exact sp_item2
  · exact sp_item3
  · exact sp_item4
  · exact sp_item5
  · exact sp_item6
  · exact sp_item7
theorem items_at {r : Nat} (h : r < 8) : ([some 5, some 6, some 7, some 8, some 9, some 10, some 11, some 12] : List (Option Nat))[(nI r).toNatClampNeg]? = some (some (5 + r)) := by
  rw [nI_clamp (by omega)]
  rcases (show r = 0 ∨ r = 1 ∨ r = 2 ∨ r = 3 ∨ r = 4 ∨ r = 5 ∨ r = 6 ∨ r = 7 by omega) with rfl | rfl | rfl | rfl | rfl | rfl | rfl | rfl <;> rfl
def zr (h : Hv) (r j : Nat) : Hv := fun a b => if a = 5 + r ∧ b < j then 0 else h a b
theorem zr_0 (h : Hv) (r : Nat) : zr h r 0 = h := by
  funext a b
  unfold zr
  rw [if_neg (by omega)]
theorem zr_s (h : Hv) (r j : Nat) : hset (zr h r j) (5 + r) j 0 = zr h r (j + 1) := by
  funext a b
  unfold hset zr
  by_cases h1 : a = 5 + r ∧ b = j
  · rw [if_pos h1, if_pos ⟨h1.1, by omega⟩]
  · rw [if_neg h1]
    by_cases h2 : a = 5 + r ∧ b < j
    · rw [if_pos h2, if_pos ⟨h2.1, by omega⟩]
    · rw [if_neg h2, if_neg (fun z => h2 ⟨z.1, by omega⟩)]
def laneV (l v : Int32) : Int32 := if l = 0 then v.toInt8.toInt32 else if l = 1 then v.toInt16.toInt32 else v
def placesP (h : Hv) (r : Nat) (i n : Int32) : Prop := ¬ n < 0 ∧ ¬ h 3 r < n ∧ ¬ i < 0 ∧ ¬ h 3 r - n < i
theorem m_isOne {h : Hv} {x : Int32} : MtF M_X4_isOne 0 [.int x] (h) (some (.int (b2i (¬ x < 0 ∧ ¬ 8 ≤ x)))) (h) := by
  refine MtF.of [some (.int x)] pl_X4 rfl rfl ?_
  refine g_iload_n d_X4_isOne_0 rfl ?_
  refine g_if_lt d_X4_isOne_1 (fun c1 => ?_) (fun c1 => ?_)
  · refine g_iconst d_X4_isOne_14 ik_0 ?_
    refine h_zret d_X4_isOne_15 rfl rfl ?_
    exact pF (by simp [b2i, *]) rfl
  · refine g_iload_n d_X4_isOne_4 rfl ?_
    refine g_bipush d_X4_isOne_5 bk_8 ?_
    refine g_icmp_ge d_X4_isOne_7 (fun c7 => ?_) (fun c7 => ?_)
    · refine g_iconst d_X4_isOne_14 ik_0 ?_
      refine h_zret d_X4_isOne_15 rfl rfl ?_
      exact pF (by simp [b2i, *]) rfl
    · refine g_iconst d_X4_isOne_10 ik_1 ?_
      refine g_goto d_X4_isOne_11 ?_
      refine h_zret d_X4_isOne_15 rfl rfl ?_
      exact pF (by simp [b2i, *]) rfl
theorem m_isMissing {h : Hv} {x : Int32} {r : Nat} (ex : x = nI r) (hr : r < 8) : MtF M_X4_isMissing 0 [.ref 1, .int x] (h) (some (.int (b2i (h 2 r = -1)))) (h) := by
  subst ex
  refine MtF.of [some (.ref 1), some (.int (nI r))] pl_X4 rfl rfl ?_
  refine g_aload_n d_X4_isMissing_0 rfl ?_
  refine h_getR d_X4_isMissing_1 fl_4_11 sp_Rows rfl ?_
  refine g_iload_n d_X4_isMissing_4 rfl ?_
  refine h_aldE (k := r) d_X4_isMissing_5 sp_lanes rfl (by omega) (by decide) ?_
  refine g_iconst d_X4_isMissing_6 ik_m1 ?_
  refine g_icmp_ne d_X4_isMissing_7 (fun c7 => ?_) (fun c7 => ?_)
  · refine g_iconst d_X4_isMissing_14 ik_0 ?_
    refine h_zret d_X4_isMissing_15 rfl rfl ?_
    exact pF (by simp [b2i, *]) rfl
  · refine g_iconst d_X4_isMissing_10 ik_1 ?_
    refine g_goto d_X4_isMissing_11 ?_
    refine h_zret d_X4_isMissing_15 rfl rfl ?_
    exact pF (by simp [b2i, *]) rfl
theorem m_hasPlaces {h : Hv} {x : Int32} {r : Nat} (ex : x = nI r) (hr : r < 8) {i n : Int32} : MtF M_X4_hasPlaces 0 [.ref 1, .int x, .int i, .int n] (h) (some (.int (b2i (¬ n < 0 ∧ ¬ h 3 r < n ∧ ¬ i < 0 ∧ ¬ h 3 r - n < i)))) (h) := by
  subst ex
  refine MtF.of [some (.ref 1), some (.int (nI r)), some (.int i), some (.int n)] pl_X4 rfl rfl ?_
  refine g_iload_n d_X4_hasPlaces_0 rfl ?_
  refine g_if_lt d_X4_hasPlaces_1 (fun c1 => ?_) (fun c1 => ?_)
  · refine g_iconst d_X4_hasPlaces_34 ik_0 ?_
    refine h_zret d_X4_hasPlaces_35 rfl rfl ?_
    exact pF (by simp [b2i, *]) rfl
  · refine g_iload_n d_X4_hasPlaces_4 rfl ?_
    refine g_aload_n d_X4_hasPlaces_5 rfl ?_
    refine h_getR d_X4_hasPlaces_6 fl_4_15 sp_Rows rfl ?_
    refine g_iload_n d_X4_hasPlaces_9 rfl ?_
    refine h_aldE (k := r) d_X4_hasPlaces_10 sp_lengths rfl (by omega) (by decide) ?_
    refine g_icmp_gt d_X4_hasPlaces_11 (fun c11 => ?_) (fun c11 => ?_)
    · refine g_iconst d_X4_hasPlaces_34 ik_0 ?_
      refine h_zret d_X4_hasPlaces_35 rfl rfl ?_
      exact pF (by simp [b2i, *]) rfl
    · refine g_iload_n d_X4_hasPlaces_14 rfl ?_
      refine g_if_lt d_X4_hasPlaces_15 (fun c15 => ?_) (fun c15 => ?_)
      · refine g_iconst d_X4_hasPlaces_34 ik_0 ?_
        refine h_zret d_X4_hasPlaces_35 rfl rfl ?_
        exact pF (by simp [b2i, *]) rfl
      · refine g_iload_n d_X4_hasPlaces_18 rfl ?_
        refine g_aload_n d_X4_hasPlaces_19 rfl ?_
        refine h_getR d_X4_hasPlaces_20 fl_4_15 sp_Rows rfl ?_
        refine g_iload_n d_X4_hasPlaces_23 rfl ?_
        refine h_aldE (k := r) d_X4_hasPlaces_24 sp_lengths rfl (by omega) (by decide) ?_
        refine g_iload_n d_X4_hasPlaces_25 rfl ?_
        refine g_isub d_X4_hasPlaces_26 ?_
        refine g_icmp_gt d_X4_hasPlaces_27 (fun c27 => ?_) (fun c27 => ?_)
        · refine g_iconst d_X4_hasPlaces_34 ik_0 ?_
          refine h_zret d_X4_hasPlaces_35 rfl rfl ?_
          exact pF (by simp [b2i, *]) rfl
        · refine g_iconst d_X4_hasPlaces_30 ik_1 ?_
          refine g_goto d_X4_hasPlaces_31 ?_
          refine h_zret d_X4_hasPlaces_35 rfl rfl ?_
          exact pF (by simp [b2i, *]) rfl
theorem m_findingOf {h : Hv} {x : Int32} {r : Nat} (ex : x = nI r) (hr : r < 8) {i n : Int32} : MtF M_X4_findingOf 1 [.ref 1, .int x, .int i, .int n] (h) (some (.int (if h 2 r = -1 then 1 else if (¬ n < 0 ∧ ¬ h 3 r < n ∧ ¬ i < 0 ∧ ¬ h 3 r - n < i) then 0 else 2))) (h) := by
  subst ex
  refine MtF.of [some (.ref 1), some (.int (nI r)), some (.int i), some (.int n)] pl_X4 rfl rfl ?_
  refine g_aload_n d_X4_findingOf_0 rfl ?_
  refine g_iload_n d_X4_findingOf_1 rfl ?_
  refine h_V1i d_X4_findingOf_2 cl_4_23 (m_isMissing rfl hr) sp_Rows (by decide) rfl (Nat.le_of_ble_eq_true rfl) (by decide) ?_
  refine g_if_eq d_X4_findingOf_5 (fun c5 => ?_) (fun c5 => ?_)
  · refine g_aload_n d_X4_findingOf_10 rfl ?_
    refine g_iload_n d_X4_findingOf_11 rfl ?_
    refine g_iload_n d_X4_findingOf_12 rfl ?_
    refine g_iload_n d_X4_findingOf_13 rfl ?_
    refine h_V3i d_X4_findingOf_14 cl_4_27 (m_hasPlaces rfl hr) sp_Rows (by decide) rfl (Nat.le_of_ble_eq_true rfl) (by decide) ?_
    refine g_if_eq d_X4_findingOf_17 (fun c17 => ?_) (fun c17 => ?_)
    · refine g_iconst d_X4_findingOf_24 ik_2 ?_
      refine h_iret d_X4_findingOf_25 rfl ?_
      refine pF ?_ rfl
      rw [if_neg (b2i_eq0.mp c5)]
      first | rw [if_pos (b2i_ne0.mp c17)] | rw [if_neg (b2i_eq0.mp c17)]
    · refine g_iconst d_X4_findingOf_20 ik_0 ?_
      refine g_goto d_X4_findingOf_21 ?_
      refine h_iret d_X4_findingOf_25 rfl ?_
      refine pF ?_ rfl
      rw [if_neg (b2i_eq0.mp c5)]
      first | rw [if_pos (b2i_ne0.mp c17)] | rw [if_neg (b2i_eq0.mp c17)]
  · refine g_iconst d_X4_findingOf_8 ik_1 ?_
    refine h_iret d_X4_findingOf_9 rfl ?_
    exact pF (by rw [if_pos (b2i_ne0.mp c5)]) rfl
theorem lp_make {h : Hv} {r : Nat} (hr : r < 8) {a b : Int32} {P : Option Value → Hv → Prop} (kx : GdH M_X4_make 0 40 [some (.ref 1), some (.int (nI r)), some (.int a), some (.int b), some (.int (nI 40))] [] (zr h r 40) P) : ∀ (n j : Nat), j + n = 40 → GdH M_X4_make 0 17 [some (.ref 1), some (.int (nI r)), some (.int a), some (.int b), some (.int (nI j))] [] (zr h r j) P := by
  intro n
  induction n with
  | zero =>
    intro j hj
    have hj' : j = 40 := by omega
    rw [hj']
    refine g_iload d_X4_make_17 rfl ?_
    refine g_bipush d_X4_make_19 bk_40 ?_
    refine g_icmp_ge d_X4_make_21 (fun c21 => ?_) (fun c21 => absurd (nI_le (a := 40) (b := 40) (Nat.le_refl _) (by omega)) c21)
    exact kx
  | succ n ih =>
    intro j hj
    refine g_iload d_X4_make_17 rfl ?_
    refine g_bipush d_X4_make_19 bk_40 ?_
    refine g_icmp_ge d_X4_make_21 (fun c21 => absurd c21 (nI_ge (a := j) (b := 40) (by omega) (by omega))) (fun c21 => ?_)
    refine g_aload_n d_X4_make_24 rfl ?_
    refine h_getR d_X4_make_25 fl_4_20 sp_Rows rfl ?_
    refine g_iload_n d_X4_make_28 rfl ?_
    refine h_aaldI d_X4_make_29 sp_items (nI_pos (by omega)) (items_at hr) ?_
    refine g_iload d_X4_make_30 rfl ?_
    refine g_iconst d_X4_make_32 ik_0 ?_
    refine h_astE (k := j) d_X4_make_33 (sp_item hr) rfl (by omega) (by decide) ?_
    refine w_iinc (L' := [_, _, _, _, _]) d_X4_make_34 ik_1 rfl rfl rfl rfl ?_
    refine g_goto d_X4_make_37 ?_
    have q := ih (j + 1) (by omega)
    rw [← zr_s] at q
    rw [nI_1]
    exact q
theorem m_make {h : Hv} {x : Int32} {r : Nat} (ex : x = nI r) (hr : r < 8) {a b : Int32} : MtF M_X4_make 0 [.ref 1, .int x, .int a, .int b] (h) (none) (zr (hset (hset h 2 r a) 3 r b) r 40) := by
  subst ex
  refine MtF.of [some (.ref 1), some (.int (nI r)), some (.int a), some (.int b), none] pl_X4 rfl rfl ?_
  refine g_aload_n d_X4_make_0 rfl ?_
  refine h_getR d_X4_make_1 fl_4_11 sp_Rows rfl ?_
  refine g_iload_n d_X4_make_4 rfl ?_
  refine g_iload_n d_X4_make_5 rfl ?_
  refine h_astE (k := r) d_X4_make_6 sp_lanes rfl (by omega) (by decide) ?_
  refine g_aload_n d_X4_make_7 rfl ?_
  refine h_getR d_X4_make_8 fl_4_15 sp_Rows rfl ?_
  refine g_iload_n d_X4_make_11 rfl ?_
  refine g_iload_n d_X4_make_12 rfl ?_
  refine h_astE (k := r) d_X4_make_13 sp_lengths rfl (by omega) (by decide) ?_
  refine g_iconst d_X4_make_14 ik_0 ?_
  refine w_istore (L' := [_, _, _, _, _]) d_X4_make_15 rfl rfl rfl ?_
  rw [← zr_0 (hset (hset h 2 r a) 3 r b) r]
  refine lp_make hr ?_ 40 0 (by omega)
  rw [zr_0]
  refine h_vret d_X4_make_40 rfl ?_
  exact pF rfl rfl
theorem m_put {h : Hv} {x : Int32} {r : Nat} (ex : x = nI r) (hr : r < 8) {y : Int32} {i : Nat} (ey : y = nI i) (hi : i < 40) {v : Int32} : MtF M_X4_put 0 [.ref 1, .int x, .int y, .int v] (h) (some (.int (laneV (h 2 r) v))) (hset h (5 + r) i (laneV (h 2 r) v)) := by
  subst ex
  subst ey
  refine MtF.of [some (.ref 1), some (.int (nI r)), some (.int (nI i)), some (.int v), none] pl_X4 rfl rfl ?_
  refine g_iload_n d_X4_put_0 rfl ?_
  refine w_istore (L' := [_, _, _, _, _]) d_X4_put_1 rfl rfl rfl ?_
  refine g_aload_n d_X4_put_3 rfl ?_
  refine h_getR d_X4_put_4 fl_4_11 sp_Rows rfl ?_
  refine g_iload_n d_X4_put_7 rfl ?_
  refine h_aldE (k := r) d_X4_put_8 sp_lanes rfl (by omega) (by decide) ?_
  refine g_if_ne d_X4_put_9 (fun c9 => ?_) (fun c9 => ?_)
  · refine g_aload_n d_X4_put_19 rfl ?_
    refine h_getR d_X4_put_20 fl_4_11 sp_Rows rfl ?_
    refine g_iload_n d_X4_put_23 rfl ?_
    refine h_aldE (k := r) d_X4_put_24 sp_lanes rfl (by omega) (by decide) ?_
    refine g_iconst d_X4_put_25 ik_1 ?_
    refine g_icmp_ne d_X4_put_26 (fun c26 => ?_) (fun c26 => ?_)
    · refine g_aload_n d_X4_put_33 rfl ?_
      refine h_getR d_X4_put_34 fl_4_20 sp_Rows rfl ?_
      refine g_iload_n d_X4_put_37 rfl ?_
      refine h_aaldI d_X4_put_38 sp_items (nI_pos (by omega)) (items_at hr) ?_
      refine g_iload_n d_X4_put_39 rfl ?_
      refine g_iload d_X4_put_40 rfl ?_
      refine h_astE (k := i) d_X4_put_42 (sp_item hr) rfl (by omega) (by decide) ?_
      refine g_iload d_X4_put_43 rfl ?_
      refine h_iret d_X4_put_45 rfl ?_
      exact pF (by simp [laneV, *]) (by simp [laneV, *])
    · refine g_iload_n d_X4_put_29 rfl ?_
      refine g_i2s d_X4_put_30 ?_
      refine w_istore (L' := [_, _, _, _, _]) d_X4_put_31 rfl rfl rfl ?_
      refine g_aload_n d_X4_put_33 rfl ?_
      refine h_getR d_X4_put_34 fl_4_20 sp_Rows rfl ?_
      refine g_iload_n d_X4_put_37 rfl ?_
      refine h_aaldI d_X4_put_38 sp_items (nI_pos (by omega)) (items_at hr) ?_
      refine g_iload_n d_X4_put_39 rfl ?_
      refine g_iload d_X4_put_40 rfl ?_
      refine h_astE (k := i) d_X4_put_42 (sp_item hr) rfl (by omega) (by decide) ?_
      refine g_iload d_X4_put_43 rfl ?_
      refine h_iret d_X4_put_45 rfl ?_
      exact pF (by simp [laneV, *]) (by simp [laneV, *])
  · refine g_iload_n d_X4_put_12 rfl ?_
    refine g_i2b d_X4_put_13 ?_
    refine w_istore (L' := [_, _, _, _, _]) d_X4_put_14 rfl rfl rfl ?_
    refine g_goto d_X4_put_16 ?_
    refine g_aload_n d_X4_put_33 rfl ?_
    refine h_getR d_X4_put_34 fl_4_20 sp_Rows rfl ?_
    refine g_iload_n d_X4_put_37 rfl ?_
    refine h_aaldI d_X4_put_38 sp_items (nI_pos (by omega)) (items_at hr) ?_
    refine g_iload_n d_X4_put_39 rfl ?_
    refine g_iload d_X4_put_40 rfl ?_
    refine h_astE (k := i) d_X4_put_42 (sp_item hr) rfl (by omega) (by decide) ?_
    refine g_iload d_X4_put_43 rfl ?_
    refine h_iret d_X4_put_45 rfl ?_
    exact pF (by simp [laneV, *]) (by simp [laneV, *])
theorem m_remove {h : Hv} {x : Int32} {r : Nat} (ex : x = nI r) (hr : r < 8) : MtF M_X4_remove 0 [.ref 1, .int x] (h) (some (.int (h 3 r))) (hset h 2 r (-1)) := by
  subst ex
  refine MtF.of [some (.ref 1), some (.int (nI r))] pl_X4 rfl rfl ?_
  refine g_aload_n d_X4_remove_0 rfl ?_
  refine h_getR d_X4_remove_1 fl_4_11 sp_Rows rfl ?_
  refine g_iload_n d_X4_remove_4 rfl ?_
  refine g_iconst d_X4_remove_5 ik_m1 ?_
  refine h_astE (k := r) d_X4_remove_6 sp_lanes rfl (by omega) (by decide) ?_
  refine g_aload_n d_X4_remove_7 rfl ?_
  refine h_getR d_X4_remove_8 fl_4_15 sp_Rows rfl ?_
  refine g_iload_n d_X4_remove_11 rfl ?_
  refine h_aldV (k := r) (v := h 3 r) d_X4_remove_12 sp_lengths rfl (by omega) (by decide) (hs_j (by decide)) ?_
  refine h_iret d_X4_remove_13 rfl ?_
  exact ⟨rfl, rfl⟩
def rowsN (h : Hv) : Nat → Int32
  | 0 => 0
  | n + 1 => rowsN h n + (if h 2 n = -1 then 0 else 1)
theorem lp_howMany {h : Hv} {P : Option Value → Hv → Prop} (kx : GdH M_X4_howMany 1 32 [some (.ref 1), some (.int (rowsN h 8)), some (.int (nI 8))] [] (h) P) : ∀ (n j : Nat), j + n = 8 → GdH M_X4_howMany 1 4 [some (.ref 1), some (.int (rowsN h j)), some (.int (nI j))] [] (h) P := by
  intro n
  induction n with
  | zero =>
    intro j hj
    have hj' : j = 8 := by omega
    rw [hj']
    refine g_iload_n d_X4_howMany_4 rfl ?_
    refine g_bipush d_X4_howMany_5 bk_8 ?_
    refine g_icmp_ge d_X4_howMany_7 (fun c7 => ?_) (fun c7 => absurd (nI_le (a := 8) (b := 8) (Nat.le_refl _) (by omega)) c7)
    exact kx
  | succ n ih =>
    intro j hj
    refine g_iload_n d_X4_howMany_4 rfl ?_
    refine g_bipush d_X4_howMany_5 bk_8 ?_
    refine g_icmp_ge d_X4_howMany_7 (fun c7 => absurd c7 (nI_ge (a := j) (b := 8) (by omega) (by omega))) (fun c7 => ?_)
    refine g_iload_n d_X4_howMany_10 rfl ?_
    refine g_aload_n d_X4_howMany_11 rfl ?_
    refine g_iload_n d_X4_howMany_12 rfl ?_
    refine h_V1i d_X4_howMany_13 cl_4_23 (m_isMissing rfl (by omega)) sp_Rows (by decide) rfl (Nat.le_of_ble_eq_true rfl) (by decide) ?_
    refine g_if_eq d_X4_howMany_16 (fun c16 => ?_) (fun c16 => ?_)
    · refine g_iconst d_X4_howMany_23 ik_1 ?_
      refine g_iadd d_X4_howMany_24 ?_
      refine w_istore_n (L' := [_, _, _]) d_X4_howMany_25 rfl rfl rfl ?_
      refine w_iinc (L' := [_, _, _]) d_X4_howMany_26 ik_1 rfl rfl rfl rfl ?_
      refine g_goto d_X4_howMany_29 ?_
      have q := ih (j + 1) (by omega)
      first | rw [show rowsN h (j + 1) = rowsN h j + 0 from congrArg (rowsN h j + ·) (if_pos (b2i_ne0.mp c16))] at q | rw [show rowsN h (j + 1) = rowsN h j + 1 from congrArg (rowsN h j + ·) (if_neg (b2i_eq0.mp c16))] at q
      rw [nI_1]
      exact q
    · refine g_iconst d_X4_howMany_19 ik_0 ?_
      refine g_goto d_X4_howMany_20 ?_
      refine g_iadd d_X4_howMany_24 ?_
      refine w_istore_n (L' := [_, _, _]) d_X4_howMany_25 rfl rfl rfl ?_
      refine w_iinc (L' := [_, _, _]) d_X4_howMany_26 ik_1 rfl rfl rfl rfl ?_
      refine g_goto d_X4_howMany_29 ?_
      have q := ih (j + 1) (by omega)
      first | rw [show rowsN h (j + 1) = rowsN h j + 0 from congrArg (rowsN h j + ·) (if_pos (b2i_ne0.mp c16))] at q | rw [show rowsN h (j + 1) = rowsN h j + 1 from congrArg (rowsN h j + ·) (if_neg (b2i_eq0.mp c16))] at q
      rw [nI_1]
      exact q
theorem m_howMany {h : Hv} : MtF M_X4_howMany 1 [.ref 1] (h) (some (.int (rowsN h 8))) (h) := by
  refine MtF.of [some (.ref 1), none, none] pl_X4 rfl rfl ?_
  refine g_iconst d_X4_howMany_0 ik_0 ?_
  refine w_istore_n (L' := [_, _, _]) d_X4_howMany_1 rfl rfl rfl ?_
  refine g_iconst d_X4_howMany_2 ik_0 ?_
  refine w_istore_n (L' := [_, _, _]) d_X4_howMany_3 rfl rfl rfl ?_
  refine lp_howMany ?_ 8 0 (by omega)
  refine g_iload_n d_X4_howMany_32 rfl ?_
  refine h_iret d_X4_howMany_33 rfl ?_
  exact pF rfl rfl
