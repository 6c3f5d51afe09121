/-! ACTS -/
theorem before_at {i : Nat} (h : i < 24) : ((List.range 24).map (fun i => some (41 + 12 * i)))[(nI i).toNatClampNeg]? = some (some (41 + 12 * i)) := by
  rw [nI_clamp (by omega), List.getElem?_map, List.getElem?_range h]
  rfl
theorem pu_ext {h g g' : Hv} {o : Nat} (he : ∀ j b, j < 12 → g j b = g' j b) : pu h o g = pu h o g' := by
  funext x y
  unfold pu blk
  split
  · exact he _ _ (by omega)
  · rfl
theorem act_ne {i : Nat} (h : i < 24) : 41 + 12 * i ≠ 15 := by omega
def keepH (h : Hv) (i c : Nat) : Hv := hset (pu (hset h 39 2 (nI ((i + 1) % 24))) (41 + 12 * ((i + 1) % 24)) (vw h 15)) 39 1 (nI (if c + 1 < 24 then c + 1 else 24))
def backH (h : Hv) (i c : Nat) : Hv := hset (hset (pu h 15 (vw h (41 + 12 * i))) 39 2 (nI ((i + 23) % 24))) 39 1 (nI (c - 1))
theorem m_keep {h : Hv} {i c : Nat} (hi : h 39 2 = nI i) (hi2 : i < 24) (hc : h 39 1 = nI c) (hc2 : c ≤ 24) : MtF M_X0_keep 2 [.ref 39, .ref 15] (h) (none) (keepH h i c) := by
  have hmod : (i + 1) % 24 < 24 := Nat.mod_lt _ (by decide)
  have hm : nI i + 1 - (nI i + 1) / 24 * 24 = nI ((i + 1) % 24) := by rw [nI_1]; exact pk_rem (d := 24) (by omega) (by decide) (by decide)
  refine MtF.of [some (.ref 39), some (.ref 15)] pl_X0 rfl rfl ?_
  refine g_aload_n d_X0_keep_0 rfl ?_
  refine g_aload_n d_X0_keep_1 rfl ?_
  refine h_getV (v := nI i) d_X0_keep_2 fl_0_18 sp_Acts rfl (hi) ?_
  refine g_iconst d_X0_keep_5 ik_1 ?_
  refine g_iadd d_X0_keep_6 ?_
  refine g_bipush d_X0_keep_7 bk_24 ?_
  refine g_irem d_X0_keep_9 (by decide) ?_
  refine h_putI d_X0_keep_10 fl_0_18 sp_Acts rfl ?_
  refine g_aload_n d_X0_keep_13 rfl ?_
  refine h_getR d_X0_keep_14 fl_0_11 sp_Acts rfl ?_
  refine g_aload_n d_X0_keep_17 rfl ?_
  refine h_getV (v := nI ((i + 1) % 24)) d_X0_keep_18 fl_0_18 sp_Acts rfl (hs_at.trans hm) ?_
  refine h_aaldH d_X0_keep_21 sp_before (nI_pos (by omega)) (before_at hmod) ?_
  refine g_aload_n d_X0_keep_22 rfl ?_
  refine h_V1v d_X0_keep_23 cl_0_22 (m_become (hall_act _ hmod) hall_15 (act_ne hmod)) (sp_hall (hall_act _ hmod)) (by decide) rfl (Nat.le_of_ble_eq_true rfl) (by decide) ?_
  refine g_aload_n d_X0_keep_26 rfl ?_
  refine g_bipush d_X0_keep_27 bk_24 ?_
  refine g_aload_n d_X0_keep_29 rfl ?_
  refine h_getV (v := nI c) d_X0_keep_30 fl_0_26 sp_Acts rfl ((blk_out (by omega)).trans ((hs_b (by decide)).trans hc)) ?_
  refine g_iconst d_X0_keep_33 ik_1 ?_
  refine g_iadd d_X0_keep_34 ?_
  refine g_mmin d_X0_keep_35 mx_0_29 (Nat.le_of_ble_eq_true rfl) (by decide) ?_
  refine h_putI d_X0_keep_38 fl_0_26 sp_Acts rfl ?_
  refine h_vret d_X0_keep_41 rfl ?_
  refine pF rfl ?_
  unfold keepH
  rw [hm, nI_1]
  have e1 : pu (hset h 39 2 (nI ((i + 1) % 24))) (41 + 12 * ((i + 1) % 24)) (vw (hset h 39 2 (nI ((i + 1) % 24))) 15) = pu (hset h 39 2 (nI ((i + 1) % 24))) (41 + 12 * ((i + 1) % 24)) (vw h 15) := pu_ext (fun j b hj => hs_j (by omega))
  rw [e1]
  refine congrArg (hset _ 39 1) ?_
  by_cases z : c + 1 < 24
  · rw [if_pos z]; exact if_pos (nI_lt (b := 24) z (by decide))
  · rw [if_neg z]; exact if_neg (nI_nlt (b := 24) (by omega) (by omega))
theorem m_takeBack {h : Hv} {i c : Nat} (hi : h 39 2 = nI i) (hi2 : i < 24) (hc : h 39 1 = nI c) (hc2 : 0 < c) (hc3 : c ≤ 24) : MtF M_X0_takeBack 2 [.ref 39, .ref 15] (h) (none) (backH h i c) := by
  refine MtF.of [some (.ref 39), some (.ref 15)] pl_X0 rfl rfl ?_
  refine g_aload_n d_X0_takeBack_0 rfl ?_
  refine g_aload_n d_X0_takeBack_1 rfl ?_
  refine h_getR d_X0_takeBack_2 fl_0_11 sp_Acts rfl ?_
  refine g_aload_n d_X0_takeBack_5 rfl ?_
  refine h_getV (v := nI i) d_X0_takeBack_6 fl_0_18 sp_Acts rfl (hi) ?_
  refine h_aaldH d_X0_takeBack_9 sp_before (nI_pos (by omega)) (before_at hi2) ?_
  refine h_V1v d_X0_takeBack_10 cl_0_22 (m_become hall_15 (hall_act _ hi2) (act_ne hi2).symm) (sp_hall hall_15) (by decide) rfl (Nat.le_of_ble_eq_true rfl) (by decide) ?_
  refine g_aload_n d_X0_takeBack_13 rfl ?_
  refine g_aload_n d_X0_takeBack_14 rfl ?_
  refine h_getV (v := nI i) d_X0_takeBack_15 fl_0_18 sp_Acts rfl ((blk_out (by omega)).trans hi) ?_
  refine g_bipush d_X0_takeBack_18 bk_24 ?_
  refine g_iadd d_X0_takeBack_20 ?_
  refine g_iconst d_X0_takeBack_21 ik_1 ?_
  refine g_isub d_X0_takeBack_22 ?_
  refine g_bipush d_X0_takeBack_23 bk_24 ?_
  refine g_irem d_X0_takeBack_25 (by decide) ?_
  refine h_putI d_X0_takeBack_26 fl_0_18 sp_Acts rfl ?_
  refine g_aload_n d_X0_takeBack_29 rfl ?_
  refine g_dup d_X0_takeBack_30 rfl ?_
  refine h_getV (v := nI c) d_X0_takeBack_31 fl_0_26 sp_Acts rfl ((hs_b (by decide)).trans ((blk_out (by omega)).trans hc)) ?_
  refine g_iconst d_X0_takeBack_34 ik_1 ?_
  refine g_isub d_X0_takeBack_35 ?_
  refine h_putI d_X0_takeBack_36 fl_0_26 sp_Acts rfl ?_
  refine h_vret d_X0_takeBack_39 rfl ?_
  refine pF rfl ?_
  unfold backH
  rw [show nI i + 24 - 1 - (nI i + 24 - 1) / 24 * 24 = nI ((i + 23) % 24) by rw [show nI i + 24 = nI (i + 24) from nI_add i 24, show nI (i + 24) - 1 = nI (i + 23) from nI_pred (i + 23)]; exact pk_rem (d := 24) (by omega) (by decide) (by decide), show nI c - 1 = nI (c - 1) from pk_sub (b := 1) hc2]
/-! ORDERS: the next order by numbers -/
def swapL (l : List Nat) (a b : Nat) : List Nat := (l.set a (l.getD b 0)).set b (l.getD a 0)
def dscL (l : List Nat) : Nat → Option Nat
  | 0 => none
  | k + 1 => if l.getD (k + 1) 0 < l.getD k 0 then dscL l k else some k
def fndL (l : List Nat) (v lo : Nat) : Nat → Nat
  | 0 => 0
  | w + 1 => if lo < w + 1 ∧ l.getD (w + 1) 0 < v then fndL l v lo w else w + 1
def revL : Nat → Nat → Nat → List Nat → List Nat
  | 0, _, _, l => l
  | m + 1, a, b, l => if a < b then revL m (a + 1) (b - 1) (swapL l a b) else l
def nextL (n : Nat) (l : List Nat) : Option (List Nat) := match dscL l (n - 1) with
  | none => none
  | some k => some (revL 3 (k + 1) (n - 1) (swapL l k (fndL l (l.getD k 0) (k + 1) (n - 1))))
/-- a row of six that holds an order -/
def ordL (l : List Nat) : Prop := l.length = 6 ∧ True
def setR (h : Hv) (a : Nat) (l : List Nat) : Hv := fun x y => if x = a ∧ y < 6 then nI (l.getD y 0) else h x y
theorem setR_at {h : Hv} {a k : Nat} {l : List Nat} (hk : k < 6) : setR h a l a k = nI (l.getD k 0) := by
  unfold setR
  rw [if_pos ⟨rfl, hk⟩]
theorem setR_ne {h : Hv} {a x k : Nat} {l : List Nat} (hx : x ≠ a) : setR h a l x k = h x k := by
  unfold setR
  rw [if_neg (fun z => hx z.1)]
theorem getD_set {l : List Nat} {a i v : Nat} (ha : a < l.length) : (l.set a v).getD i 0 = if i = a then v else l.getD i 0 := by
  rw [List.getD_eq_getElem?_getD, List.getD_eq_getElem?_getD]
  by_cases e : i = a
  · subst e
    rw [if_pos rfl, List.getElem?_set_self ha]
    rfl
  · rw [if_neg e, List.getElem?_set_ne (fun z => e z.symm)]
theorem swapL_get {l : List Nat} (hl : l.length = 6) {a b i : Nat} (ha : a < 6) (hb : b < 6) : (swapL l a b).getD i 0 = if i = b then l.getD a 0 else if i = a then l.getD b 0 else l.getD i 0 := by
  unfold swapL
  rw [getD_set (by rw [List.length_set, hl]; exact hb), getD_set (by rw [hl]; exact ha)]
theorem ordL_swap {l : List Nat} (h : ordL l) {a b : Nat} (_ : a < 6) (_ : b < 6) : ordL (swapL l a b) := ⟨by unfold swapL; rw [List.length_set, List.length_set]; exact h.1, trivial⟩
theorem setR_swap {h : Hv} {r a b : Nat} {l : List Nat} (hl : ordL l) (ha : a < 6) (hb : b < 6) : hset (hset (setR h r l) r a (nI (l.getD b 0))) r b (nI (l.getD a 0)) = setR h r (swapL l a b) := by
  funext x y
  unfold hset setR
  by_cases hx : x = r
  · by_cases hy : y < 6
    · rw [if_pos (show x = r ∧ y < 6 from ⟨hx, hy⟩), swapL_get hl.1 ha hb]
      by_cases e1 : y = b
      · rw [if_pos ⟨hx, e1⟩, if_pos e1, if_pos ⟨hx, hy⟩]
      · rw [if_neg (fun z => e1 z.2), if_neg e1]
        by_cases e2 : y = a
        · rw [if_pos ⟨hx, e2⟩, if_pos e2, if_pos ⟨hx, hy⟩]
        · rw [if_neg (fun z => e2 z.2), if_neg e2, if_pos ⟨hx, hy⟩]
    · rw [if_neg (fun z => hy (by omega)), if_neg (fun z => hy (by omega)), if_neg (fun z => hy z.2), if_neg (fun z => hy z.2)]
  · rw [if_neg (fun z => hx z.1), if_neg (fun z => hx z.1), if_neg (fun z => hx z.1), if_neg (fun z => hx z.1)]
theorem fndL_le (l : List Nat) (v lo : Nat) : ∀ w, fndL l v lo w ≤ w
  | 0 => Nat.le_refl 0
  | w + 1 => by
    rw [fndL]
    split
    · exact Nat.le_succ_of_le (fndL_le l v lo w)
    · exact Nat.le_refl _
theorem fndL_ge (l : List Nat) (v lo : Nat) : ∀ w, lo ≤ w → lo ≤ fndL l v lo w
  | 0, h => h
  | w + 1, h => by
    rw [fndL]
    split
    · rename_i hc
      exact fndL_ge l v lo w (by omega)
    · exact h
theorem dscL_lt (l : List Nat) : ∀ k a, dscL l k = some a → a < k
  | 0, _, h => by cases h
  | k + 1, a, h => by
    rw [dscL] at h
    split at h
    · exact Nat.lt_succ_of_lt (dscL_lt l k a h)
    · cases h
      exact Nat.lt_succ_self k
theorem dscL_up (l : List Nat) : ∀ k a, dscL l k = some a → ¬ l.getD (a + 1) 0 < l.getD a 0
  | 0, _, h => by cases h
  | k + 1, a, h => by
    rw [dscL] at h
    split at h
    · exact dscL_up l k a h
    · rename_i hc
      cases h
      exact hc
theorem ordL_rev : ∀ (m a b : Nat) (l : List Nat), ordL l → b < 6 → ordL (revL m a b l)
  | 0, _, _, _, h, _ => h
  | m + 1, a, b, l, h, hb => by
    rw [revL]
    split
    · exact ordL_rev m (a + 1) (b - 1) _ (ordL_swap h (by omega) hb) (by omega)
    · exact h
theorem ordL_next {n : Nat} {l l' : List Nat} (h : ordL l) (hn : n ≤ 6) (e : nextL n l = some l') : ordL l' := by
  unfold nextL at e
  cases hd : dscL l (n - 1) with
  | none => rw [hd] at e; cases e
  | some k =>
    rw [hd] at e
    cases e
    have h1 := dscL_lt l _ _ hd
    have h2 := fndL_le l (l.getD k 0) (k + 1) (n - 1)
    exact ordL_rev 3 _ _ _ (ordL_swap h (by omega) (by omega)) (by omega)
theorem m_swap {h : Hv} {l : List Nat} (hl : ordL l) {x y : Int32} {a b : Nat} (ex : x = nI a) (ha : a < 6) (ey : y = nI b) (hb : b < 6) : MtF M_X3_swap 0 [.ref 330, .int x, .int y] (setR h 332 l) (none) (setR h 332 (swapL l a b)) := by
  subst ex
  subst ey
  refine MtF.of [some (.ref 330), some (.int (nI a)), some (.int (nI b)), none] pl_X3 rfl rfl ?_
  refine g_aload_n d_X3_swap_0 rfl ?_
  refine h_getR d_X3_swap_1 fl_3_15 sp_Orders rfl ?_
  refine g_iload_n d_X3_swap_4 rfl ?_
  refine h_aldV (k := a) (v := nI (l.getD a 0)) d_X3_swap_5 sp_tried rfl (by omega) (by decide) (setR_at ha) ?_
  refine w_istore_n (L' := [_, _, _, _]) d_X3_swap_6 rfl rfl rfl ?_
  refine g_aload_n d_X3_swap_7 rfl ?_
  refine h_getR d_X3_swap_8 fl_3_15 sp_Orders rfl ?_
  refine g_iload_n d_X3_swap_11 rfl ?_
  refine g_aload_n d_X3_swap_12 rfl ?_
  refine h_getR d_X3_swap_13 fl_3_15 sp_Orders rfl ?_
  refine g_iload_n d_X3_swap_16 rfl ?_
  refine h_aldV (k := b) (v := nI (l.getD b 0)) d_X3_swap_17 sp_tried rfl (by omega) (by decide) (setR_at hb) ?_
  refine h_astE (k := a) d_X3_swap_18 sp_tried rfl (by omega) (by decide) ?_
  refine g_aload_n d_X3_swap_19 rfl ?_
  refine h_getR d_X3_swap_20 fl_3_15 sp_Orders rfl ?_
  refine g_iload_n d_X3_swap_23 rfl ?_
  refine g_iload_n d_X3_swap_24 rfl ?_
  refine h_astE (k := b) d_X3_swap_25 sp_tried rfl (by omega) (by decide) ?_
  refine h_vret d_X3_swap_26 rfl ?_
  exact pF rfl (setR_swap hl ha hb)
theorem lp_next1 {h : Hv} {l : List Nat} (hl : ordL l) {n : Nat} (hn : n ≤ 6) (hlN : ∀ i, i < n → l.getD i 0 < 6) {P : Option Value → Hv → Prop} (hx : ∀ a, dscL l (n - 1) = some a → ∀ y3 y4 y5, GdH M_X3_toNextOrder 1 37 [some (.ref 330), some (.int (nI n)), some (.int (nI a)), y3, y4, y5] [] (setR h 332 l) P) (hz : dscL l (n - 1) = none → P (some (.int 0)) (setR h 332 l)) : ∀ k, k < n → dscL l k = dscL l (n - 1) → ∀ y3 y4 y5, GdH M_X3_toNextOrder 1 4 [some (.ref 330), some (.int (nI n)), some (.int (nI k - 1)), y3, y4, y5] [] (setR h 332 l) P := by
  intro k
  induction k with
  | zero =>
    intro hk he y3 y4 y5
    refine g_iload_n d_X3_toNextOrder_4 rfl ?_
    refine g_if_lt d_X3_toNextOrder_5 (fun c5 => ?_) (fun c5 => absurd (show nI 0 - 1 < 0 by decide) c5)
    refine g_iload_n d_X3_toNextOrder_31 rfl ?_
    refine g_if_ge d_X3_toNextOrder_32 (fun c32 => absurd c32 (show ¬ 0 ≤ nI 0 - 1 by decide)) (fun c32 => ?_)
    refine g_iconst d_X3_toNextOrder_35 ik_0 ?_
    refine h_zret d_X3_toNextOrder_36 rfl rfl ?_
    exact hz (he ▸ rfl)
  | succ k ih =>
    intro hk he y3 y4 y5
    rw [nI_pred]
    have hk1 := hlN k (by omega)
    have hk2 := hlN (k + 1) (by omega)
    refine g_iload_n d_X3_toNextOrder_4 rfl ?_
    refine g_if_lt d_X3_toNextOrder_5 (fun c5 => absurd c5 (nI_pos (by omega))) (fun c5 => ?_)
    refine g_aload_n d_X3_toNextOrder_8 rfl ?_
    refine h_getR d_X3_toNextOrder_9 fl_3_15 sp_Orders rfl ?_
    refine g_iload_n d_X3_toNextOrder_12 rfl ?_
    refine h_aldV (k := k) (v := nI (l.getD k 0)) d_X3_toNextOrder_13 sp_tried rfl (by omega) (by decide) (setR_at (by omega)) ?_
    refine g_aload_n d_X3_toNextOrder_14 rfl ?_
    refine h_getR d_X3_toNextOrder_15 fl_3_15 sp_Orders rfl ?_
    refine g_iload_n d_X3_toNextOrder_18 rfl ?_
    refine g_iconst d_X3_toNextOrder_19 ik_1 ?_
    refine g_iadd d_X3_toNextOrder_20 ?_
    refine h_aldV (k := (k + 1)) (v := nI (l.getD (k + 1) 0)) d_X3_toNextOrder_21 sp_tried (nAdd rfl rfl) (by omega) (by decide) (setR_at (by omega)) ?_
    refine g_icmp_le d_X3_toNextOrder_22 (fun c22 => ?_) (fun c22 => ?_)
    · refine g_iload_n d_X3_toNextOrder_31 rfl ?_
      refine g_if_ge d_X3_toNextOrder_32 (fun c32 => ?_) (fun c32 => absurd (nI_pos' (by omega)) c32)
      exact hx k (by rw [← he, dscL, if_neg (fun z => nI_ge z (by omega) c22)]) y3 y4 y5
    · refine w_iinc (L' := [_, _, _, _, _, _]) d_X3_toNextOrder_25 ik_m1 rfl rfl rfl rfl ?_
      refine g_goto d_X3_toNextOrder_28 ?_
      rw [show nI k + (-1) = nI k - 1 from (Int32.sub_eq_add_neg _ _).symm]
      exact ih (by omega) (by rw [← he, dscL, if_pos (by rcases Nat.lt_or_ge (l.getD (k + 1) 0) (l.getD k 0) with z | z; exact z; exact absurd (nI_le z (by omega)) c22)]) y3 y4 y5
theorem lp_next2 {h : Hv} {l : List Nat} (hl : ordL l) {n : Nat} (hn : n ≤ 6) (hlN : ∀ i, i < n → l.getD i 0 < 6) {a : Nat} (ha : a + 1 < n) {P : Option Value → Hv → Prop} (hx : ∀ y4 y5, GdH M_X3_toNextOrder 1 69 [some (.ref 330), some (.int (nI n)), some (.int (nI a)), some (.int (nI (fndL l (l.getD a 0) (a + 1) (n - 1)))), y4, y5] [] (setR h 332 l) P) : ∀ w, a + 1 ≤ w → w < n → fndL l (l.getD a 0) (a + 1) w = fndL l (l.getD a 0) (a + 1) (n - 1) → ∀ y4 y5, GdH M_X3_toNextOrder 1 41 [some (.ref 330), some (.int (nI n)), some (.int (nI a)), some (.int (nI w)), y4, y5] [] (setR h 332 l) P := by
  intro w
  induction w with
  | zero => intro h1; omega
  | succ w ih =>
    intro h1 h2 he y4 y5
    have hk1 := hlN a (by omega)
    have hk2 := hlN (w + 1) (by omega)
    refine g_iload_n d_X3_toNextOrder_41 rfl ?_
    refine g_iload_n d_X3_toNextOrder_42 rfl ?_
    refine g_iconst d_X3_toNextOrder_43 ik_1 ?_
    refine g_iadd d_X3_toNextOrder_44 ?_
    rw [nI_1]
    refine g_icmp_le d_X3_toNextOrder_45 (fun c45 => ?_) (fun c45 => ?_)
    · have e9 : fndL l (l.getD a 0) (a + 1) (n - 1) = w + 1 := by
        rw [← he, fndL, if_neg]
        intro z
        first | exact nI_ge z.1 (by omega) c45 | exact nI_ge z.2 (by omega) c60
      have q := hx y4 y5
      rw [e9] at q
      exact q
    · refine g_aload_n d_X3_toNextOrder_48 rfl ?_
      refine h_getR d_X3_toNextOrder_49 fl_3_15 sp_Orders rfl ?_
      refine g_iload_n d_X3_toNextOrder_52 rfl ?_
      refine h_aldV (k := (w + 1)) (v := nI (l.getD (w + 1) 0)) d_X3_toNextOrder_53 sp_tried rfl (by omega) (by decide) (setR_at (by omega)) ?_
      refine g_aload_n d_X3_toNextOrder_54 rfl ?_
      refine h_getR d_X3_toNextOrder_55 fl_3_15 sp_Orders rfl ?_
      refine g_iload_n d_X3_toNextOrder_58 rfl ?_
      refine h_aldV (k := a) (v := nI (l.getD a 0)) d_X3_toNextOrder_59 sp_tried rfl (by omega) (by decide) (setR_at (by omega)) ?_
      refine g_icmp_ge d_X3_toNextOrder_60 (fun c60 => ?_) (fun c60 => ?_)
      · have e9 : fndL l (l.getD a 0) (a + 1) (n - 1) = w + 1 := by
          rw [← he, fndL, if_neg]
          intro z
          first | exact nI_ge z.1 (by omega) c45 | exact nI_ge z.2 (by omega) c60
        have q := hx y4 y5
        rw [e9] at q
        exact q
      · refine w_iinc (L' := [_, _, _, _, _, _]) d_X3_toNextOrder_63 ik_m1 rfl rfl rfl rfl ?_
        refine g_goto d_X3_toNextOrder_66 ?_
        rw [pk_m1]
        exact ih (by rcases Nat.lt_or_ge (a + 1) (w + 1) with z | z; omega; exact absurd (nI_le z (by omega)) c45) (by omega) (by rw [← he, fndL, if_pos ⟨by rcases Nat.lt_or_ge (a + 1) (w + 1) with z | z; exact z; exact absurd (nI_le z (by omega)) c45, by rcases Nat.lt_or_ge (l.getD (w + 1) 0) (l.getD a 0) with z | z; exact z; exact absurd (nI_le z (by omega)) c60⟩]) y4 y5
theorem lp_next3 {h : Hv} {n : Nat} {va vw3 : Int32} {l0 : List Nat} : ∀ (m a b : Nat) (l : List Nat), ordL l → b < 6 → b < a + 2 * m → a + m ≤ 20 → revL m a b l = l0 → GdH M_X3_toNextOrder 1 85 [some (.ref 330), some (.int (nI n)), some (.int va), some (.int vw3), some (.int (nI a)), some (.int (nI b))] [] (setR h 332 l) (fun v' h' => v' = some (.int 1) ∧ h' = setR h 332 l0) := by
  intro m
  induction m with
  | zero =>
    intro a b l hl hb hm ha20 he
    rw [revL] at he
    refine g_iload d_X3_toNextOrder_85 rfl ?_
    refine g_iload d_X3_toNextOrder_87 rfl ?_
    refine g_icmp_ge d_X3_toNextOrder_89 (fun c89 => ?_) (fun c89 => absurd (nI_le (by omega) (by omega)) c89)
    refine g_iconst d_X3_toNextOrder_109 ik_1 ?_
    refine h_zret d_X3_toNextOrder_110 rfl rfl ?_
    exact pF rfl (by rw [he])
  | succ m ih =>
    intro a b l hl hb hm ha20 he
    rw [revL] at he
    refine g_iload d_X3_toNextOrder_85 rfl ?_
    refine g_iload d_X3_toNextOrder_87 rfl ?_
    refine g_icmp_ge d_X3_toNextOrder_89 (fun c89 => ?_) (fun c89 => ?_)
    · refine g_iconst d_X3_toNextOrder_109 ik_1 ?_
      refine h_zret d_X3_toNextOrder_110 rfl rfl ?_
      exact pF rfl (by rw [← he, if_neg (fun z => nI_ge z (by omega) c89)])
    · refine g_aload_n d_X3_toNextOrder_92 rfl ?_
      refine g_iload d_X3_toNextOrder_93 rfl ?_
      refine g_iload d_X3_toNextOrder_95 rfl ?_
      refine h_V2v d_X3_toNextOrder_97 cl_3_66 (m_swap hl rfl (by rcases Nat.lt_or_ge a b with z | z; omega; exact absurd (nI_le z (by omega)) c89) rfl hb) sp_Orders (by decide) rfl (Nat.le_of_ble_eq_true rfl) (by decide) ?_
      refine w_iinc (L' := [_, _, _, _, _, _]) d_X3_toNextOrder_100 ik_1 rfl rfl rfl rfl ?_
      refine w_iinc (L' := [_, _, _, _, _, _]) d_X3_toNextOrder_103 ik_m1 rfl rfl rfl rfl ?_
      refine g_goto d_X3_toNextOrder_106 ?_
      have hab : a < b := by rcases Nat.lt_or_ge a b with z | z; exact z; exact absurd (nI_le z (by omega)) c89
      rw [nI_1, show nI b + (-1) = nI (b - 1) by rw [show b = (b - 1) + 1 by omega]; exact pk_m1 (b - 1)]
      exact ih (a + 1) (b - 1) _ (ordL_swap hl (by omega) hb) (by omega) (by omega) (by omega) (by rw [← he, if_pos hab])
theorem m_toNextOrder {h : Hv} {l : List Nat} (hl : ordL l) {x : Int32} {n : Nat} (ex : x = nI n) (hn0 : 0 < n) (hn : n ≤ 6) (hlN : ∀ i, i < n → l.getD i 0 < 6) : MtF M_X3_toNextOrder 1 [.ref 330, .int x] (setR h 332 l) (some (.int (b2i (nextL n l ≠ none)))) (setR h 332 ((nextL n l).getD l)) := by
  subst ex
  refine MtF.of [some (.ref 330), some (.int (nI n)), none, none, none, none] pl_X3 rfl rfl ?_
  refine g_iload_n d_X3_toNextOrder_0 rfl ?_
  refine g_iconst d_X3_toNextOrder_1 ik_2 ?_
  refine g_isub d_X3_toNextOrder_2 ?_
  refine w_istore_n (L' := [_, _, _, _, _, _]) d_X3_toNextOrder_3 rfl rfl rfl ?_
  rw [show nI n - 2 = nI (n - 1) - 1 by rw [show n = (n - 1) + 1 by omega, nI_succ, Nat.add_sub_cancel]; simp only [Int32.sub_eq_add_neg, Int32.add_assoc]; rfl]
  refine lp_next1 hl hn hlN (fun a ha y3 y4 y5 => ?_) (fun hz => ?_) (n - 1) (by omega) rfl none none none
  · have hal := dscL_lt l _ _ ha
    have hfl := fndL_le l (l.getD a 0) (a + 1) (n - 1)
    have hfg := fndL_ge l (l.getD a 0) (a + 1) (n - 1) (by omega)
    have e1 : nextL n l = some (revL 3 (a + 1) (n - 1) (swapL l a (fndL l (l.getD a 0) (a + 1) (n - 1)))) := by
      unfold nextL
      rw [ha]
    rw [e1, b2i_t (by simp)]
    refine g_iload_n d_X3_toNextOrder_37 rfl ?_
    refine g_iconst d_X3_toNextOrder_38 ik_1 ?_
    refine g_isub d_X3_toNextOrder_39 ?_
    refine w_istore_n (L' := [_, _, _, _, _, _]) d_X3_toNextOrder_40 rfl rfl rfl ?_
    rw [show nI n - 1 = nI (n - 1) from pk_sub (b := 1) hn0]
    refine lp_next2 hl hn hlN (by omega) (fun y4 y5 => ?_) (n - 1) (by omega) (by omega) rfl y4 y5
    refine g_aload_n d_X3_toNextOrder_69 rfl ?_
    refine g_iload_n d_X3_toNextOrder_70 rfl ?_
    refine g_iload_n d_X3_toNextOrder_71 rfl ?_
    refine h_V2v d_X3_toNextOrder_72 cl_3_66 (m_swap hl rfl (by omega) rfl (by omega)) sp_Orders (by decide) rfl (Nat.le_of_ble_eq_true rfl) (by decide) ?_
    refine g_iload_n d_X3_toNextOrder_75 rfl ?_
    refine g_iconst d_X3_toNextOrder_76 ik_1 ?_
    refine g_iadd d_X3_toNextOrder_77 ?_
    refine w_istore (L' := [_, _, _, _, _, _]) d_X3_toNextOrder_78 rfl rfl rfl ?_
    refine g_iload_n d_X3_toNextOrder_80 rfl ?_
    refine g_iconst d_X3_toNextOrder_81 ik_1 ?_
    refine g_isub d_X3_toNextOrder_82 ?_
    refine w_istore (L' := [_, _, _, _, _, _]) d_X3_toNextOrder_83 rfl rfl rfl ?_
    rw [nI_1, show nI n - 1 = nI (n - 1) from pk_sub (b := 1) hn0]
    exact lp_next3 3 (a + 1) (n - 1) _ (ordL_swap hl (by omega) (by omega)) (by omega) (by omega) (by omega) rfl
  · have e1 : nextL n l = none := by
      unfold nextL
      rw [hz]
    rw [e1, b2i_f (by simp)]
    exact pF rfl rfl
