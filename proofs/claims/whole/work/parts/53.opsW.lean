/-! OPS: order: the reference -/
def endsIn (N : Nat) : Nat → List Nat → Bool
  | 0, l => (nextL N l).isNone
  | F + 1, l => match nextL N l with
    | none => true
    | some l' => endsIn N F l'
theorem ends_ok : ∀ N, N ≤ 6 → endsIn N 719 idL = true := by decide +kernel
theorem setR_self {w : Hv} {a : Nat} {l : List Nat} (h : ∀ y, y < 6 → w a y = nI (l.getD y 0)) : setR w a l = w := by
  funext x y
  unfold setR
  split
  · rename_i z
    rw [z.1, h y z.2]
  · rfl
theorem m7_trades {h w : Hv} {l : List Nat} (hl : ordL l) {x y : Int32} {a b : Nat} (ex : x = nI a) (ha : a < 6) (ey : y = nI b) (hb : b < 6) : MtF M_X7_trades 0 [.ref 360, .int x, .int y] (mu h (setR w 11 l)) (none) (mu h (setR w 11 (swapL l a b))) := by
  subst ex
  subst ey
  refine MtF.of [some (.ref 360), some (.int (nI a)), some (.int (nI b)), none] pl_X7 rfl rfl ?_
  refine g_aload_n d_X7_trades_0 rfl ?_
  refine h_getR d_X7_trades_1 fl_7_40 sp_M rfl ?_
  refine g_iload_n d_X7_trades_4 rfl ?_
  refine mm_aldV (k := a) (v := nI (l.getD a 0)) d_X7_trades_5 (j := 11) sp_m_rank rfl (by decide) rfl (by omega) (by decide) (setR_at ha) ?_
  refine w_istore_n (L' := [_, _, _, _]) d_X7_trades_6 rfl rfl rfl ?_
  refine g_aload_n d_X7_trades_7 rfl ?_
  refine h_getR d_X7_trades_8 fl_7_40 sp_M rfl ?_
  refine g_iload_n d_X7_trades_11 rfl ?_
  refine g_aload_n d_X7_trades_12 rfl ?_
  refine h_getR d_X7_trades_13 fl_7_40 sp_M rfl ?_
  refine g_iload_n d_X7_trades_16 rfl ?_
  refine mm_aldV (k := b) (v := nI (l.getD b 0)) d_X7_trades_17 (j := 11) sp_m_rank rfl (by decide) rfl (by omega) (by decide) (setR_at hb) ?_
  refine mm_astE (k := a) d_X7_trades_18 (j := 11) sp_m_rank rfl (by decide) rfl (by omega) (by decide) ?_
  refine g_aload_n d_X7_trades_19 rfl ?_
  refine h_getR d_X7_trades_20 fl_7_40 sp_M rfl ?_
  refine g_iload_n d_X7_trades_23 rfl ?_
  refine g_iload_n d_X7_trades_24 rfl ?_
  refine mm_astE (k := b) d_X7_trades_25 (j := 11) sp_m_rank rfl (by decide) rfl (by omega) (by decide) ?_
  refine h_vret d_X7_trades_26 rfl ?_
  exact pF rfl (by rw [setR_swap hl ha hb])
theorem lp7_next1 {h w : Hv} {l : List Nat} (hl : ordL l) {n : Nat} (hn : n ≤ 6) (hlN : ∀ i, i < n → l.getD i 0 < 6) {P : Option Value → Hv → Prop} (hx : ∀ a, dscL l (n - 1) = some a → ∀ y3 y4 y5, GdH M_X7_nextOrder 1 44 [some (.ref 360), some (.int (nI n)), some (.int (nI a)), y3, y4, y5] [] (mu h (setR w 11 l)) P) (hz : dscL l (n - 1) = none → P (some (.int 0)) (mu h (setR w 11 l))) : ∀ k, k < n → dscL l k = dscL l (n - 1) → ∀ y3 y4 y5, GdH M_X7_nextOrder 1 11 [some (.ref 360), some (.int (nI n)), some (.int (nI k - 1)), y3, y4, y5] [] (mu h (setR w 11 l)) P := by
  intro k
  induction k with
  | zero =>
    intro hk he y3 y4 y5
    refine g_iload_n d_X7_nextOrder_11 rfl ?_
    refine g_if_lt d_X7_nextOrder_12 (fun c12 => ?_) (fun c12 => absurd (show nI 0 - 1 < 0 by decide) c12)
    refine g_iload_n d_X7_nextOrder_38 rfl ?_
    refine g_if_ge d_X7_nextOrder_39 (fun c39 => absurd c39 (show ¬ 0 ≤ nI 0 - 1 by decide)) (fun c39 => ?_)
    refine g_iconst d_X7_nextOrder_42 ik_0 ?_
    refine h_zret d_X7_nextOrder_43 rfl rfl ?_
    exact hz (he ▸ rfl)
  | succ k ih =>
    intro hk he y3 y4 y5
    rw [nI_pred]
    have hk1 := hlN k (by omega)
    have hk2 := hlN (k + 1) (by omega)
    refine g_iload_n d_X7_nextOrder_11 rfl ?_
    refine g_if_lt d_X7_nextOrder_12 (fun c12 => absurd c12 (nI_pos (by omega))) (fun c12 => ?_)
    refine g_aload_n d_X7_nextOrder_15 rfl ?_
    refine h_getR d_X7_nextOrder_16 fl_7_40 sp_M rfl ?_
    refine g_iload_n d_X7_nextOrder_19 rfl ?_
    refine mm_aldV (k := k) (v := nI (l.getD k 0)) d_X7_nextOrder_20 (j := 11) sp_m_rank rfl (by decide) rfl (by omega) (by decide) (setR_at (by omega)) ?_
    refine g_aload_n d_X7_nextOrder_21 rfl ?_
    refine h_getR d_X7_nextOrder_22 fl_7_40 sp_M rfl ?_
    refine g_iload_n d_X7_nextOrder_25 rfl ?_
    refine g_iconst d_X7_nextOrder_26 ik_1 ?_
    refine g_iadd d_X7_nextOrder_27 ?_
    refine mm_aldV (k := (k + 1)) (v := nI (l.getD (k + 1) 0)) d_X7_nextOrder_28 (j := 11) sp_m_rank rfl (by decide) (nAdd rfl rfl) (by omega) (by decide) (setR_at (by omega)) ?_
    refine g_icmp_le d_X7_nextOrder_29 (fun c29 => ?_) (fun c29 => ?_)
    · refine g_iload_n d_X7_nextOrder_38 rfl ?_
      refine g_if_ge d_X7_nextOrder_39 (fun c39 => ?_) (fun c39 => absurd (nI_pos' (by omega)) c39)
      exact hx k (by rw [← he, dscL, if_neg (fun z => nI_ge z (by omega) c29)]) y3 y4 y5
    · refine w_iinc (L' := [_, _, _, _, _, _]) d_X7_nextOrder_32 ik_m1 rfl rfl rfl rfl ?_
      refine g_goto d_X7_nextOrder_35 ?_
      rw [show nI k + (-1) = nI k - 1 from (Int32.sub_eq_add_neg _ _).symm]
      exact ih (by omega) (by rw [← he, dscL, if_pos (by rcases Nat.lt_or_ge (l.getD (k + 1) 0) (l.getD k 0) with z | z; exact z; exact absurd (nI_le z (by omega)) c29)]) y3 y4 y5
theorem lp7_next2 {h w : Hv} {l : List Nat} (hl : ordL l) {n : Nat} (hn : n ≤ 6) (hlN : ∀ i, i < n → l.getD i 0 < 6) {a : Nat} (ha : a + 1 < n) (hup : ¬ l.getD (a + 1) 0 < l.getD a 0) {P : Option Value → Hv → Prop} (hx : ∀ y4 y5, GdH M_X7_nextOrder 1 69 [some (.ref 360), some (.int (nI n)), some (.int (nI a)), some (.int (nI (fndL l (l.getD a 0) (a + 1) (n - 1)))), y4, y5] [] (mu h (setR w 11 l)) P) : ∀ w1, a + 1 ≤ w1 → w1 < n → fndL l (l.getD a 0) (a + 1) w1 = fndL l (l.getD a 0) (a + 1) (n - 1) → ∀ y4 y5, GdH M_X7_nextOrder 1 48 [some (.ref 360), some (.int (nI n)), some (.int (nI a)), some (.int (nI w1)), y4, y5] [] (mu h (setR w 11 l)) P := by
  intro w1
  induction w1 with
  | zero => intro h1; omega
  | succ w1 ih =>
    intro h1 h2 he y4 y5
    have hk1 := hlN a (by omega)
    have hk2 := hlN (w1 + 1) (by omega)
    refine g_aload_n d_X7_nextOrder_48 rfl ?_
    refine h_getR d_X7_nextOrder_49 fl_7_40 sp_M rfl ?_
    refine g_iload_n d_X7_nextOrder_52 rfl ?_
    refine mm_aldV (k := (w1 + 1)) (v := nI (l.getD (w1 + 1) 0)) d_X7_nextOrder_53 (j := 11) sp_m_rank rfl (by decide) rfl (by omega) (by decide) (setR_at (by omega)) ?_
    refine g_aload_n d_X7_nextOrder_54 rfl ?_
    refine h_getR d_X7_nextOrder_55 fl_7_40 sp_M rfl ?_
    refine g_iload_n d_X7_nextOrder_58 rfl ?_
    refine mm_aldV (k := a) (v := nI (l.getD a 0)) d_X7_nextOrder_59 (j := 11) sp_m_rank rfl (by decide) rfl (by omega) (by decide) (setR_at (by omega)) ?_
    refine g_icmp_ge d_X7_nextOrder_60 (fun c60 => ?_) (fun c60 => ?_)
    · have e9 : fndL l (l.getD a 0) (a + 1) (n - 1) = w1 + 1 := by
        rw [← he, fndL, if_neg]
        intro z
        exact nI_ge z.2 (by omega) c60
      have q := hx y4 y5
      rw [e9] at q
      exact q
    · refine w_iinc (L' := [_, _, _, _, _, _]) d_X7_nextOrder_63 ik_m1 rfl rfl rfl rfl ?_
      refine g_goto d_X7_nextOrder_66 ?_
      have hlt : l.getD (w1 + 1) 0 < l.getD a 0 := by rcases Nat.lt_or_ge (l.getD (w1 + 1) 0) (l.getD a 0) with z | z; exact z; exact absurd (nI_le z (by omega)) c60
      have hne : a ≠ w1 := fun z => by subst z; exact hup hlt
      rw [pk_m1]
      exact ih (by omega) (by omega) (by rw [← he, fndL, if_pos ⟨by omega, hlt⟩]) y4 y5
theorem lp7_next3 {h w : Hv} {n : Nat} {va vw3 : Int32} {l0 : List Nat} : ∀ (m a b : Nat) (l : List Nat), ordL l → b < 6 → b < a + 2 * m → a + m ≤ 20 → revL m a b l = l0 → GdH M_X7_nextOrder 1 85 [some (.ref 360), some (.int (nI n)), some (.int va), some (.int vw3), some (.int (nI a)), some (.int (nI b))] [] (mu h (setR w 11 l)) (fun v' h' => v' = some (.int 1) ∧ h' = mu h (setR w 11 l0)) := by
  intro m
  induction m with
  | zero =>
    intro a b l hl hb hm ha20 he
    rw [revL] at he
    refine g_iload d_X7_nextOrder_85 rfl ?_
    refine g_iload d_X7_nextOrder_87 rfl ?_
    refine g_icmp_ge d_X7_nextOrder_89 (fun c89 => ?_) (fun c89 => absurd (nI_le (by omega) (by omega)) c89)
    refine g_iconst d_X7_nextOrder_109 ik_1 ?_
    refine h_zret d_X7_nextOrder_110 rfl rfl ?_
    exact pF rfl (by rw [he])
  | succ m ih =>
    intro a b l hl hb hm ha20 he
    rw [revL] at he
    refine g_iload d_X7_nextOrder_85 rfl ?_
    refine g_iload d_X7_nextOrder_87 rfl ?_
    refine g_icmp_ge d_X7_nextOrder_89 (fun c89 => ?_) (fun c89 => ?_)
    · refine g_iconst d_X7_nextOrder_109 ik_1 ?_
      refine h_zret d_X7_nextOrder_110 rfl rfl ?_
      exact pF rfl (by rw [← he, if_neg (fun z => nI_ge z (by omega) c89)])
    · refine g_aload_n d_X7_nextOrder_92 rfl ?_
      refine g_iload d_X7_nextOrder_93 rfl ?_
      refine g_iload d_X7_nextOrder_95 rfl ?_
      refine h_V2v d_X7_nextOrder_97 cl_7_225 (m7_trades hl rfl (by rcases Nat.lt_or_ge a b with z | z; omega; exact absurd (nI_le z (by omega)) c89) rfl hb) sp_M (by decide) rfl (Nat.le_of_ble_eq_true rfl) (by decide) ?_
      refine w_iinc (L' := [_, _, _, _, _, _]) d_X7_nextOrder_100 ik_1 rfl rfl rfl rfl ?_
      refine w_iinc (L' := [_, _, _, _, _, _]) d_X7_nextOrder_103 ik_m1 rfl rfl rfl rfl ?_
      refine g_goto d_X7_nextOrder_106 ?_
      have hab : a < b := by rcases Nat.lt_or_ge a b with z | z; exact z; exact absurd (nI_le z (by omega)) c89
      rw [nI_1, show nI b + (-1) = nI (b - 1) by rw [show b = (b - 1) + 1 by omega]; exact pk_m1 (b - 1)]
      exact ih (a + 1) (b - 1) _ (ordL_swap hl (by omega) hb) (by omega) (by omega) (by omega) (by rw [← he, if_pos hab])
theorem m7_nextOrder {h w : Hv} {l : List Nat} (hl : ordL l) {n : Nat} (hw : w 7 1 = nI n) (hn0 : 0 < n) (hn : n ≤ 6) (hlN : ∀ i, i < n → l.getD i 0 < 6) : MtF M_X7_nextOrder 1 [.ref 360] (mu h (setR w 11 l)) (some (.int (b2i (nextL n l ≠ none)))) (mu h (setR w 11 ((nextL n l).getD l))) := by
  refine MtF.of [some (.ref 360), none, none, none, none, none] pl_X7 rfl rfl ?_
  refine g_aload_n d_X7_nextOrder_0 rfl ?_
  refine h_getR d_X7_nextOrder_1 fl_7_28 sp_M rfl ?_
  refine g_iconst d_X7_nextOrder_4 ik_1 ?_
  refine mm_aldV (k := 1) (v := nI n) d_X7_nextOrder_5 (j := 7) sp_m_d rfl (by decide) rfl (by omega) (by decide) ((setR_ne (by decide)).trans hw) ?_
  refine w_istore_n (L' := [_, _, _, _, _, _]) d_X7_nextOrder_6 rfl rfl rfl ?_
  refine g_iload_n d_X7_nextOrder_7 rfl ?_
  refine g_iconst d_X7_nextOrder_8 ik_2 ?_
  refine g_isub d_X7_nextOrder_9 ?_
  refine w_istore_n (L' := [_, _, _, _, _, _]) d_X7_nextOrder_10 rfl rfl rfl ?_
  rw [show nI n - 2 = nI (n - 1) - 1 by rw [show n = (n - 1) + 1 by omega, nI_succ, Nat.add_sub_cancel]; simp only [Int32.sub_eq_add_neg, Int32.add_assoc]; rfl]
  refine lp7_next1 hl hn hlN (fun a ha y3 y4 y5 => ?_) (fun hz => ?_) (n - 1) (by omega) rfl none none none
  · have hal := dscL_lt l _ _ ha
    have hup := dscL_up l _ _ ha
    have hfl := fndL_le l (l.getD a 0) (a + 1) (n - 1)
    have hfg := fndL_ge l (l.getD a 0) (a + 1) (n - 1) (by omega)
    have e1 : nextL n l = some (revL 3 (a + 1) (n - 1) (swapL l a (fndL l (l.getD a 0) (a + 1) (n - 1)))) := by
      unfold nextL
      rw [ha]
    rw [e1, b2i_t (by simp)]
    refine g_iload_n d_X7_nextOrder_44 rfl ?_
    refine g_iconst d_X7_nextOrder_45 ik_1 ?_
    refine g_isub d_X7_nextOrder_46 ?_
    refine w_istore_n (L' := [_, _, _, _, _, _]) d_X7_nextOrder_47 rfl rfl rfl ?_
    rw [show nI n - 1 = nI (n - 1) from pk_sub (b := 1) hn0]
    refine lp7_next2 hl hn hlN (by omega) hup (fun y4 y5 => ?_) (n - 1) (by omega) (by omega) rfl y4 y5
    refine g_aload_n d_X7_nextOrder_69 rfl ?_
    refine g_iload_n d_X7_nextOrder_70 rfl ?_
    refine g_iload_n d_X7_nextOrder_71 rfl ?_
    refine h_V2v d_X7_nextOrder_72 cl_7_225 (m7_trades hl rfl (by omega) rfl (by omega)) sp_M (by decide) rfl (Nat.le_of_ble_eq_true rfl) (by decide) ?_
    refine g_iload_n d_X7_nextOrder_75 rfl ?_
    refine g_iconst d_X7_nextOrder_76 ik_1 ?_
    refine g_iadd d_X7_nextOrder_77 ?_
    refine w_istore (L' := [_, _, _, _, _, _]) d_X7_nextOrder_78 rfl rfl rfl ?_
    refine g_iload_n d_X7_nextOrder_80 rfl ?_
    refine g_iconst d_X7_nextOrder_81 ik_1 ?_
    refine g_isub d_X7_nextOrder_82 ?_
    refine w_istore (L' := [_, _, _, _, _, _]) d_X7_nextOrder_83 rfl rfl rfl ?_
    rw [nI_1, show nI n - 1 = nI (n - 1) from pk_sub (b := 1) hn0]
    exact lp7_next3 3 (a + 1) (n - 1) _ (ordL_swap hl (by omega) (by omega)) (by omega) (by omega) (by omega) rfl
  · have e1 : nextL n l = none := by
      unfold nextL
      rw [hz]
    rw [e1, b2i_f (by simp)]
    exact pF rfl rfl
theorem lp7_best {h w : Hv} {v1 v2 v3 v4 v5 v6 v7 : Int32} {P : Option Value → Hv → Prop} (kx : GdH M_X7_order 4 143 [some (.ref 360), some (.int v1), some (.int v2), some (.int v3), some (.int v4), some (.int v5), some (.int v6), some (.int v7), some (.int (nI 6))] [] (mu h (cpW w 11 17 6)) P) : ∀ (n j : Nat), j + n = 6 → GdH M_X7_order 4 116 [some (.ref 360), some (.int v1), some (.int v2), some (.int v3), some (.int v4), some (.int v5), some (.int v6), some (.int v7), some (.int (nI j))] [] (mu h (cpW w 11 17 j)) P := by
  intro n
  induction n with
  | zero =>
    intro j hj
    have hj' : j = 6 := by omega
    rw [hj']
    refine g_iload d_X7_order_116 rfl ?_
    refine g_bipush d_X7_order_118 bk_6 ?_
    refine g_icmp_ge d_X7_order_120 (fun c120 => ?_) (fun c120 => absurd (nI_le (a := 6) (b := 6) (Nat.le_refl _) (by omega)) c120)
    exact kx
  | succ n ih =>
    intro j hj
    refine g_iload d_X7_order_116 rfl ?_
    refine g_bipush d_X7_order_118 bk_6 ?_
    refine g_icmp_ge d_X7_order_120 (fun c120 => absurd c120 (nI_ge (a := j) (b := 6) (by omega) (by omega))) (fun c120 => ?_)
    refine g_aload_n d_X7_order_123 rfl ?_
    refine h_getR d_X7_order_124 fl_7_59 sp_M rfl ?_
    refine g_iload d_X7_order_127 rfl ?_
    refine g_aload_n d_X7_order_129 rfl ?_
    refine h_getR d_X7_order_130 fl_7_40 sp_M rfl ?_
    refine g_iload d_X7_order_133 rfl ?_
    refine mm_aldE (k := j) d_X7_order_135 (j := 11) sp_m_rank rfl (by decide) rfl (by omega) (by decide) ?_
    refine mm_astE (k := j) d_X7_order_136 (j := 17) sp_m_bestM rfl (by decide) rfl (by omega) (by decide) ?_
    refine w_iinc (L' := [_, _, _, _, _, _, _, _, _]) d_X7_order_137 ik_1 rfl rfl rfl rfl ?_
    refine g_goto d_X7_order_140 ?_
    have q := ih (j + 1) (by omega)
    rw [cpW_s (by decide)] at q
    rw [nI_1]
    exact q
theorem ev_order {h w w' g : Hv} {M N n : Nat} {z : Int32} {l : List Nat} {s : Int32 × Int32 × (Nat → Int32)} (hI : HI M N g) (wN : w 7 1 = nI N) (hR : Rep0 M N g w 7 8) (hn : n < 2 ^ 30) (hl : inN N l) (hf : FrS w w') (hk : ∀ y, y < 6 → w' 11 y = nI (l.getD y 0)) (hb : ∀ y, y < 6 → w' 17 y = s.2.2 y) {P : Option Value → Hv → Prop}
    (kx : ∀ (w2 : Hv) (y6 y7 y8 : Option Value), FrS w w2 → (∀ y, y < 6 → w2 11 y = nI (l.getD y 0)) → (∀ y, y < 6 → w2 17 y = (if (s.1 < 0 ∨ (lateE g M N n l) < s.1 ∨ ((lateE g M N n l) = s.1 ∧ ¬ (dryE g M N n l) ≤ s.2.1)) then ((lateE g M N n l), (dryE g M N n l), lf l) else s).2.2 y) → GdH M_X7_order 4 143 [some (.ref 360), some (.int (nI n)), some (.int z), some (.int (if (s.1 < 0 ∨ (lateE g M N n l) < s.1 ∨ ((lateE g M N n l) = s.1 ∧ ¬ (dryE g M N n l) ≤ s.2.1)) then ((lateE g M N n l), (dryE g M N n l), lf l) else s).1), some (.int (if (s.1 < 0 ∨ (lateE g M N n l) < s.1 ∨ ((lateE g M N n l) = s.1 ∧ ¬ (dryE g M N n l) ≤ s.2.1)) then ((lateE g M N n l), (dryE g M N n l), lf l) else s).2.1), some (.int 1), y6, y7, y8] [] (mu h w2) P) : ∀ (y6 y7 y8 : Option Value), GdH M_X7_order 4 50 [some (.ref 360), some (.int (nI n)), some (.int z), some (.int s.1), some (.int s.2.1), some (.int 1), y6, y7, y8] [] (mu h w') P := by
  have hN6 := hI.hN6
  have hIr := hI.rnk hl.2
  have hn0 : RepM M N (rnk g l) (nowW w') 9 10 := by
    have q := (hf.r0 hR hI.hM5 hI.hN6)
    refine Rep0.rm (Rep0.mv (w := w') (g := rnk g l) ?_ hI.hM5 hN6 (fun y hy => now_9 hy) (fun y hy => now_10 hy)) (fun j hj => ?_)
    · exact q
    · rw [show nowW w' 11 j = w' 11 j by unfold nowW; rw [hs_j (by decide)]; unfold cpW; rw [if_neg (by omega), if_neg (by omega)], hk j (by omega)]
      unfold rnk
      rw [if_pos ⟨rfl, by omega⟩]
  intro y6 y7 y8
  refine g_aload_n d_X7_order_50 rfl ?_
  refine h_V0v d_X7_order_51 cl_7_178 m7_asNow sp_M (by decide) rfl (Nat.le_of_ble_eq_true rfl) (by decide) ?_
  refine g_aload_n d_X7_order_54 rfl ?_
  refine g_iload_n d_X7_order_55 rfl ?_
  refine h_V1P d_X7_order_56 cl_7_184 (m7_foretells hn0 hIr rfl hn) sp_M (by decide) rfl (Nat.le_of_ble_eq_true rfl) (by decide) ?_
  intro v' h' hp
  obtain ⟨rfl, w2, rfl, hr2, hf2, hd2⟩ := hp
  have hf3 := hf.tr (now_fs.tr hf2.fs)
  have h11 : ∀ y, y < 6 → w2 11 y = nI (l.getD y 0) := fun y hy => by rw [hf2 11 y (by omega) (by omega), show nowW w' 11 y = w' 11 y by unfold nowW; rw [hs_j (by decide)]; unfold cpW; rw [if_neg (by omega), if_neg (by omega)]]; exact hk y hy
  have h17 : ∀ y, y < 6 → w2 17 y = s.2.2 y := fun y hy => by rw [hf2 17 y (by omega) (by omega), show nowW w' 17 y = w' 17 y by unfold nowW; rw [hs_j (by decide)]; unfold cpW; rw [if_neg (by omega), if_neg (by omega)]]; exact hb y hy
  refine g_aload_n d_X7_order_59 rfl ?_
  refine g_aload_n d_X7_order_60 rfl ?_
  refine h_getR d_X7_order_61 fl_7_37 sp_M rfl ?_
  refine h_V1i d_X7_order_64 cl_7_215 (m7_lateAll ar_w hr2.r0 hN6 (hf3.w71 wN)) sp_M (by decide) rfl (Nat.le_of_ble_eq_true rfl) (by decide) ?_
  refine w_istore (L' := [_, _, _, _, _, _, _, _, _]) d_X7_order_67 rfl rfl rfl ?_
  refine g_aload_n d_X7_order_69 rfl ?_
  refine g_aload_n d_X7_order_70 rfl ?_
  refine h_getR d_X7_order_71 fl_7_37 sp_M rfl ?_
  refine g_iconst d_X7_order_74 ik_2 ?_
  refine h_V2i d_X7_order_75 cl_7_191 (m7_howAll ar_w hr2.r0 hN6 (hf3.w71 wN)) sp_M (by decide) rfl (Nat.le_of_ble_eq_true rfl) (by decide) ?_
  refine h_S1i d_X7_order_78 cl_7_228 (m7_ones (whS_eq _ 2 _ hN6) (Nat.lt_of_lt_of_le (whN_lt _ 2 _) (pow6 hN6))) (Nat.le_of_ble_eq_true rfl) (by decide) ?_
  rw [cntS_eq _ 2 _ hN6]
  refine w_istore (L' := [_, _, _, _, _, _, _, _, _]) d_X7_order_81 rfl rfl rfl ?_
  refine g_iload_n d_X7_order_83 rfl ?_
  refine g_if_lt d_X7_order_84 (fun c84 => ?_) (fun c84 => ?_)
  · refine g_iload d_X7_order_106 rfl ?_
    refine w_istore_n (L' := [_, _, _, _, _, _, _, _, _]) d_X7_order_108 rfl rfl rfl ?_
    refine g_iload d_X7_order_109 rfl ?_
    refine w_istore (L' := [_, _, _, _, _, _, _, _, _]) d_X7_order_111 rfl rfl rfl ?_
    refine g_iconst d_X7_order_113 ik_0 ?_
    refine w_istore (L' := [_, _, _, _, _, _, _, _, _]) d_X7_order_114 rfl rfl rfl ?_
    have hB : (s.1 < 0 ∨ (lateE g M N n l) < s.1 ∨ ((lateE g M N n l) = s.1 ∧ ¬ (dryE g M N n l) ≤ s.2.1)) := by first | exact Or.inl c84 | exact Or.inr (Or.inl c90) | exact Or.inr (Or.inr ⟨c96, c103⟩)
    rw [show mu h w2 = mu h (cpW w2 11 17 0) by rw [cpW_0]]
    refine lp7_best ?_ 6 0 rfl
    have q := kx (cpW w2 11 17 6) (some (.int (lateE g M N n l))) (some (.int (dryE g M N n l))) (some (.int (nI 6))) (fun x y a b c d e f => (if_neg (fun z => e z.1)).trans (hf3 x y a b c d e f)) (fun y hy => (if_neg (by omega)).trans (h11 y hy)) (fun y hy => by rw [if_pos hB]; exact (if_pos ⟨rfl, hy⟩).trans (h11 y hy))
    rw [if_pos hB] at q
    exact q
  · refine g_iload d_X7_order_87 rfl ?_
    refine g_iload_n d_X7_order_89 rfl ?_
    refine g_icmp_lt d_X7_order_90 (fun c90 => ?_) (fun c90 => ?_)
    · refine g_iload d_X7_order_106 rfl ?_
      refine w_istore_n (L' := [_, _, _, _, _, _, _, _, _]) d_X7_order_108 rfl rfl rfl ?_
      refine g_iload d_X7_order_109 rfl ?_
      refine w_istore (L' := [_, _, _, _, _, _, _, _, _]) d_X7_order_111 rfl rfl rfl ?_
      refine g_iconst d_X7_order_113 ik_0 ?_
      refine w_istore (L' := [_, _, _, _, _, _, _, _, _]) d_X7_order_114 rfl rfl rfl ?_
      have hB : (s.1 < 0 ∨ (lateE g M N n l) < s.1 ∨ ((lateE g M N n l) = s.1 ∧ ¬ (dryE g M N n l) ≤ s.2.1)) := by first | exact Or.inl c84 | exact Or.inr (Or.inl c90) | exact Or.inr (Or.inr ⟨c96, c103⟩)
      rw [show mu h w2 = mu h (cpW w2 11 17 0) by rw [cpW_0]]
      refine lp7_best ?_ 6 0 rfl
      have q := kx (cpW w2 11 17 6) (some (.int (lateE g M N n l))) (some (.int (dryE g M N n l))) (some (.int (nI 6))) (fun x y a b c d e f => (if_neg (fun z => e z.1)).trans (hf3 x y a b c d e f)) (fun y hy => (if_neg (by omega)).trans (h11 y hy)) (fun y hy => by rw [if_pos hB]; exact (if_pos ⟨rfl, hy⟩).trans (h11 y hy))
      rw [if_pos hB] at q
      exact q
    · refine g_iload d_X7_order_93 rfl ?_
      refine g_iload_n d_X7_order_95 rfl ?_
      refine g_icmp_ne d_X7_order_96 (fun c96 => ?_) (fun c96 => ?_)
      · have hB : ¬ (s.1 < 0 ∨ (lateE g M N n l) < s.1 ∨ ((lateE g M N n l) = s.1 ∧ ¬ (dryE g M N n l) ≤ s.2.1)) := by
          rintro (z | z | z)
          · exact c84 z
          · exact c90 z
          · first | exact c96 z.1 | exact z.2 c103
        have q := kx w2 (some (.int (lateE g M N n l))) (some (.int (dryE g M N n l))) y8 hf3 h11 (fun y hy => by rw [if_neg hB]; exact h17 y hy)
        rw [if_neg hB] at q
        exact q
      · refine g_iload d_X7_order_99 rfl ?_
        refine g_iload d_X7_order_101 rfl ?_
        refine g_icmp_le d_X7_order_103 (fun c103 => ?_) (fun c103 => ?_)
        · have hB : ¬ (s.1 < 0 ∨ (lateE g M N n l) < s.1 ∨ ((lateE g M N n l) = s.1 ∧ ¬ (dryE g M N n l) ≤ s.2.1)) := by
            rintro (z | z | z)
            · exact c84 z
            · exact c90 z
            · first | exact c96 z.1 | exact z.2 c103
          have q := kx w2 (some (.int (lateE g M N n l))) (some (.int (dryE g M N n l))) y8 hf3 h11 (fun y hy => by rw [if_neg hB]; exact h17 y hy)
          rw [if_neg hB] at q
          exact q
        · refine g_iload d_X7_order_106 rfl ?_
          refine w_istore_n (L' := [_, _, _, _, _, _, _, _, _]) d_X7_order_108 rfl rfl rfl ?_
          refine g_iload d_X7_order_109 rfl ?_
          refine w_istore (L' := [_, _, _, _, _, _, _, _, _]) d_X7_order_111 rfl rfl rfl ?_
          refine g_iconst d_X7_order_113 ik_0 ?_
          refine w_istore (L' := [_, _, _, _, _, _, _, _, _]) d_X7_order_114 rfl rfl rfl ?_
          have hB : (s.1 < 0 ∨ (lateE g M N n l) < s.1 ∨ ((lateE g M N n l) = s.1 ∧ ¬ (dryE g M N n l) ≤ s.2.1)) := by first | exact Or.inl c84 | exact Or.inr (Or.inl c90) | exact Or.inr (Or.inr ⟨c96, c103⟩)
          rw [show mu h w2 = mu h (cpW w2 11 17 0) by rw [cpW_0]]
          refine lp7_best ?_ 6 0 rfl
          have q := kx (cpW w2 11 17 6) (some (.int (lateE g M N n l))) (some (.int (dryE g M N n l))) (some (.int (nI 6))) (fun x y a b c d e f => (if_neg (fun z => e z.1)).trans (hf3 x y a b c d e f)) (fun y hy => (if_neg (by omega)).trans (h11 y hy)) (fun y hy => by rw [if_pos hB]; exact (if_pos ⟨rfl, hy⟩).trans (h11 y hy))
          rw [if_pos hB] at q
          exact q
theorem lp_order7 {h w g : Hv} {M N n : Nat} {z : Int32} (hI : HI M N g) (wN : w 7 1 = nI N) (hR : Rep0 M N g w 7 8) (hn : n < 2 ^ 30) (hpos : ∀ l, inN N l → ¬ lateE g M N n l < 0) {P : Option Value → Hv → Prop} : ∀ (F : Nat) (l : List Nat) (s : Int32 × Int32 × (Nat → Int32)) (w' : Hv) (y6 y7 y8 : Option Value), endsIn N F l = true → inN N l → ¬ s.1 < 0 → FrS w w' → (∀ y, y < 6 → w' 11 y = nI (l.getD y 0)) → (∀ y, y < 6 → w' 17 y = s.2.2 y) → (∀ (w2 : Hv) (y6 y7 y8 : Option Value), FrS w w2 → (∀ y, y < 6 → w2 17 y = (scA g M N n F l s).2.2 y) → GdH M_X7_order 4 152 [some (.ref 360), some (.int (nI n)), some (.int z), some (.int (scA g M N n F l s).1), some (.int (scA g M N n F l s).2.1), some (.int 0), y6, y7, y8] [] (mu h w2) P) → GdH M_X7_order 4 143 [some (.ref 360), some (.int (nI n)), some (.int z), some (.int s.1), some (.int s.2.1), some (.int 1), y6, y7, y8] [] (mu h w') P := by
  have hN6 := hI.hN6
  have hN0 := hI.hN0
  have fin : ∀ (l : List Nat) (s : Int32 × Int32 × (Nat → Int32)) (w' : Hv) (y6 y7 y8 : Option Value), nextL N l = none → inN N l → FrS w w' → (∀ y, y < 6 → w' 11 y = nI (l.getD y 0)) → (∀ y, y < 6 → w' 17 y = s.2.2 y) → (∀ (w2 : Hv) (y6 y7 y8 : Option Value), FrS w w2 → (∀ y, y < 6 → w2 17 y = s.2.2 y) → GdH M_X7_order 4 152 [some (.ref 360), some (.int (nI n)), some (.int z), some (.int s.1), some (.int s.2.1), some (.int 0), y6, y7, y8] [] (mu h w2) P) → GdH M_X7_order 4 143 [some (.ref 360), some (.int (nI n)), some (.int z), some (.int s.1), some (.int s.2.1), some (.int 1), y6, y7, y8] [] (mu h w') P := by
    intro l s w' y6 y7 y8 hz hl hf hk hb kx
    rw [show mu h w' = mu h (setR w' 11 l) by rw [setR_self hk]]
    refine g_aload_n d_X7_order_143 rfl ?_
    refine h_V0i d_X7_order_144 cl_7_231 (m7_nextOrder hl.1 (hf.w71 wN) hN0 hN6 (fun i hi => Nat.lt_of_lt_of_le (hl.2 i hi) hN6)) sp_M (by decide) rfl (Nat.le_of_ble_eq_true rfl) (by decide) ?_
    rw [hz, b2i_f (by simp), Option.getD_none, setR_self hk]
    refine w_istore (L' := [_, _, _, _, _, _, _, _, _]) d_X7_order_147 rfl rfl rfl ?_
    refine g_goto d_X7_order_149 ?_
    refine g_iload d_X7_order_45 rfl ?_
    refine g_if_eq d_X7_order_47 (fun c47 => ?_) (fun c47 => absurd rfl c47)
    exact kx w' y6 y7 y8 hf hb
  intro F
  induction F with
  | zero =>
    intro l s w' y6 y7 y8 he hl hs hf hk hb kx
    have hz : nextL N l = none := by
      cases hz : nextL N l with
      | none => rfl
      | some m => rw [endsIn, hz] at he; cases he
    exact fin l s w' y6 y7 y8 hz hl hf hk hb kx
  | succ F ih =>
    intro l s w' y6 y7 y8 he hl hs hf hk hb kx
    cases hz : nextL N l with
    | none =>
      rw [scA, hz] at kx
      exact fin l s w' y6 y7 y8 hz hl hf hk hb kx
    | some m =>
      rw [scA, hz] at kx
      rw [endsIn, hz] at he
      dsimp only at kx he
      have hm := inN_next hl hN6 hz
      rw [show mu h w' = mu h (setR w' 11 l) by rw [setR_self hk]]
      refine g_aload_n d_X7_order_143 rfl ?_
      refine h_V0i d_X7_order_144 cl_7_231 (m7_nextOrder hl.1 (hf.w71 wN) hN0 hN6 (fun i hi => Nat.lt_of_lt_of_le (hl.2 i hi) hN6)) sp_M (by decide) rfl (Nat.le_of_ble_eq_true rfl) (by decide) ?_
      rw [hz, b2i_t (by simp), Option.getD_some]
      refine w_istore (L' := [_, _, _, _, _, _, _, _, _]) d_X7_order_147 rfl rfl rfl ?_
      refine g_goto d_X7_order_149 ?_
      refine g_iload d_X7_order_45 rfl ?_
      refine g_if_eq d_X7_order_47 (fun c47 => absurd c47 (by decide)) (fun c47 => ?_)
      refine ev_order (l := m) hI wN hR hn hm (w' := setR w' 11 m) (fun x y a b c d e f => (setR_ne c).trans (hf x y a b c d e f)) (fun y hy => setR_at hy) (fun y hy => (setR_ne (by decide)).trans (hb y hy)) (fun w2 y6 y7 y8 g1 g2 g3 => ?_) y6 y7 y8
      have et : (if (s.1 < 0 ∨ lateE g M N n m < s.1 ∨ (lateE g M N n m = s.1 ∧ ¬ dryE g M N n m ≤ s.2.1)) then (lateE g M N n m, dryE g M N n m, lf m) else s) = trS g M N n 0 m s := by
        unfold trS
        by_cases c : s.1 < 0 ∨ lateE g M N n m < s.1 ∨ (lateE g M N n m = s.1 ∧ ¬ dryE g M N n m ≤ s.2.1)
        · rw [if_pos c, if_pos (Or.inr (c.resolve_left hs))]
        · rw [if_neg c, if_neg (fun q => q.elim (fun q => q rfl) (fun q => c (Or.inr q)))]
      rw [et] at g3 ⊢
      refine ih m _ w2 y6 y7 y8 he hm ?_ g1 g2 g3 kx
      unfold trS
      split
      · exact hpos m hm
      · exact hs
theorem op_order {h w : Hv} (hR : RelP h w) {x y : Int32} : OPI M_X6_order M_X7_order 7 4 [.int x, .int y] (mu h w) := by
  obtain ⟨M, N, hM5, hN6, gM, wM, gN, wN, hZ⟩ := hR.mn
  have eM : (nI M).toInt = M := nI_toInt (by omega)
  have eN : (nI N).toInt = N := nI_toInt (by omega)
  have eM1 := nI_predI (t := M) (by omega)
  have eN1 := nI_predI (t := N) (by omega)
  refine MtH.of [some (.ref 0), some (.int x), some (.int y)] pl_X6 rfl rfl ?_
  refine g_aload_n d_X6_order_0 rfl ?_
  refine h_getR d_X6_order_1 fl_6_26 sp_L rfl ?_
  refine h_V0i d_X6_order_4 cl_6_154 p_isNone (sp_hall hall_15) (by decide) rfl (Nat.le_of_ble_eq_true rfl) (by decide) ?_
  refine g_if_eq d_X6_order_7 (fun c7 => ?_) (fun c7 => ?_)
  · have hM0 : ¬ nI M = 0 := fun z => b2i_eq0.mp c7 (gM.trans z)
    obtain ⟨i0, c0, hi0, hi1, hS, hA, hO⟩ := (hZ.resolve_left (fun z => hM0 (by rw [z.1]; rfl))).2.2
    have hI := hS.1
    refine g_iload_n d_X6_order_13 rfl ?_
    refine h_S1i d_X6_order_14 cl_6_252 m6_isPlanned (Nat.le_of_ble_eq_true rfl) (by decide) ?_
    refine g_if_eq d_X6_order_17 (fun c17 => ?_) (fun c17 => ?_)
    · refine g_ldc d_X6_order_25 kc_X6_66 ?_
      refine h_iret d_X6_order_27 rfl ?_
      refine ⟨_, rfl, ?_⟩
      refine MtH.of [some (.ref 360), some (.int x), some (.int y), none, none, none, none, none, none] pl_X7 rfl rfl ?_
      refine g_aload_n d_X7_order_0 rfl ?_
      refine g_iconst d_X7_order_1 ik_0 ?_
      refine mm_putI d_X7_order_2 fl_7_62 sp_M rfl ?_
      refine g_aload_n d_X7_order_5 rfl ?_
      refine h_V0i d_X7_order_6 cl_7_195 (m7_isNothing ((hs_j (by decide)).trans wM)) sp_M (by decide) rfl (Nat.le_of_ble_eq_true rfl) (by decide) ?_
      refine g_if_eq d_X7_order_9 (fun c9 => ?_) (fun c9 => ?_)
      · refine g_iload_n d_X7_order_15 rfl ?_
        refine g_iconst d_X7_order_16 ik_1 ?_
        refine g_bipush d_X7_order_17 bk_50 ?_
        refine h_S3i d_X7_order_19 cl_7_70 m7_in (Nat.le_of_ble_eq_true rfl) (by decide) ?_
        refine g_if_eq d_X7_order_22 (fun c22 => ?_) (fun c22 => ?_)
        · refine g_ldc d_X7_order_30 kc_X7_78 ?_
          refine h_iret d_X7_order_32 rfl ?_
          exact ⟨rfl, _, _, rfl, hR.fr fr_thrown⟩
        · refine g_iload_n d_X7_order_25 rfl ?_
          refine g_iconst d_X7_order_26 ik_m1 ?_
          refine g_icmp_ge d_X7_order_27 (fun c27 => ?_) (fun c27 => ?_)
          · exfalso
            simp only [b2i_eq0, b2i_ne0, Int32.lt_iff_toInt_lt, Int32.le_iff_toInt_le, t_0, t_1, t_2, t_3, t_4, t_5, t_6, t_7, t_8, t_9, t_10, t_11, t_12, t_20, t_24, t_40, t_50, t_60, t_99, t_110, t_255, t_999, t_999999, t_m1, gM, gN, eM, eN, eM1, eN1] at *
            omega
          · refine g_ldc d_X7_order_30 kc_X7_78 ?_
            refine h_iret d_X7_order_32 rfl ?_
            exact ⟨rfl, _, _, rfl, hR.fr fr_thrown⟩
      · exact absurd (b2i_ne0.mp c9) hM0
    · refine g_iload_n d_X6_order_20 rfl ?_
      refine g_iconst d_X6_order_21 ik_m1 ?_
      refine g_icmp_ge d_X6_order_22 (fun c22 => ?_) (fun c22 => ?_)
      · obtain ⟨n, hn, rfl⟩ := rngI (x := x) (B := 51) (by simp only [b2i_eq0, b2i_ne0, Int32.lt_iff_toInt_lt, Int32.le_iff_toInt_le, t_0, t_1, t_2, t_3, t_4, t_5, t_6, t_7, t_8, t_9, t_10, t_11, t_12, t_20, t_24, t_40, t_50, t_60, t_99, t_110, t_255, t_999, t_999999, t_m1, gM, gN, eM, eN, eM1, eN1] at *; omega) (by simp only [b2i_eq0, b2i_ne0, Int32.lt_iff_toInt_lt, Int32.le_iff_toInt_le, t_0, t_1, t_2, t_3, t_4, t_5, t_6, t_7, t_8, t_9, t_10, t_11, t_12, t_20, t_24, t_40, t_50, t_60, t_99, t_110, t_255, t_999, t_999999, t_m1, gM, gN, eM, eN, eM1, eN1] at *; omega)
        have en : (nI n).toInt = n := nI_toInt (by omega)
        refine g_aload_n d_X6_order_28 rfl ?_
        refine h_getR d_X6_order_29 fl_6_47 sp_L rfl ?_
        refine g_aload_n d_X6_order_32 rfl ?_
        refine h_getR d_X6_order_33 fl_6_26 sp_L rfl ?_
        refine g_aload_n d_X6_order_36 rfl ?_
        refine h_getR d_X6_order_37 fl_6_30 sp_L rfl ?_
        refine g_iload_n d_X6_order_40 rfl ?_
        refine h_V3P d_X6_order_41 cl_6_255 (p_find hR hi0 hi1 hS hA hO (by simp only [b2i_eq0, b2i_ne0, Int32.lt_iff_toInt_lt, Int32.le_iff_toInt_le, t_0, t_1, t_2, t_3, t_4, t_5, t_6, t_7, t_8, t_9, t_10, t_11, t_12, t_20, t_24, t_40, t_50, t_60, t_99, t_110, t_255, t_999, t_999999, t_m1, en, gM, gN, eM, eN, eM1, eN1] at *; omega) (by omega)) sp_Orders (by decide) rfl (Nat.le_of_ble_eq_true rfl) (by decide) ?_
        rintro v' H' ⟨rfl, h2, rfl, hR2, h3, h1, hB⟩
        refine g_iload_n d_X6_order_44 rfl ?_
        refine g_if_ge d_X6_order_45 (fun c45 => ?_) (fun c45 => ?_)
        · refine g_iload_n d_X6_order_56 rfl ?_
          refine g_aload_n d_X6_order_57 rfl ?_
          refine h_getR d_X6_order_58 fl_6_26 sp_L rfl ?_
          refine h_getV (v := nI N) d_X6_order_61 fl_6_262 (sp_hall hall_15) rfl ((mu_low (by decide)).trans h3) ?_
          refine g_icmp_ge d_X6_order_64 (fun c64 => ?_) (fun c64 => ?_)
          · refine g_ldc d_X6_order_79 kc_X6_220 ?_
            refine h_iret d_X6_order_81 rfl ?_
            have k45 := c45
            have k64 := c64
            refine ⟨_, rfl, ?_⟩
            refine MtH.of [some (.ref 360), some (.int (nI n)), some (.int (y)), none, none, none, none, none, none] pl_X7 rfl rfl ?_
            refine g_aload_n d_X7_order_0 rfl ?_
            refine g_iconst d_X7_order_1 ik_0 ?_
            refine mm_putI d_X7_order_2 fl_7_62 sp_M rfl ?_
            refine g_aload_n d_X7_order_5 rfl ?_
            refine h_V0i d_X7_order_6 cl_7_195 (m7_isNothing ((hs_j (by decide)).trans wM)) sp_M (by decide) rfl (Nat.le_of_ble_eq_true rfl) (by decide) ?_
            refine g_if_eq d_X7_order_9 (fun c9 => ?_) (fun c9 => ?_)
            · refine g_iload_n d_X7_order_15 rfl ?_
              refine g_iconst d_X7_order_16 ik_1 ?_
              refine g_bipush d_X7_order_17 bk_50 ?_
              refine h_S3i d_X7_order_19 cl_7_70 m7_in (Nat.le_of_ble_eq_true rfl) (by decide) ?_
              refine g_if_eq d_X7_order_22 (fun c22 => ?_) (fun c22 => ?_)
              · exfalso
                simp only [b2i_eq0, b2i_ne0, Int32.lt_iff_toInt_lt, Int32.le_iff_toInt_le, t_0, t_1, t_2, t_3, t_4, t_5, t_6, t_7, t_8, t_9, t_10, t_11, t_12, t_20, t_24, t_40, t_50, t_60, t_99, t_110, t_255, t_999, t_999999, t_m1, en, gM, gN, eM, eN, eM1, eN1] at *
                omega
              · refine g_iload_n d_X7_order_25 rfl ?_
                refine g_iconst d_X7_order_26 ik_m1 ?_
                refine g_icmp_ge d_X7_order_27 (fun c27 => ?_) (fun c27 => ?_)
                · refine g_aload_n d_X7_order_33 rfl ?_
                  refine h_V0v d_X7_order_34 cl_7_181 m7_ranksByNumber sp_M (by decide) rfl (Nat.le_of_ble_eq_true rfl) (by decide) ?_
                  refine g_iconst d_X7_order_37 ik_m1 ?_
                  refine w_istore_n (L' := [_, _, _, _, _, _, _, _, _]) d_X7_order_38 rfl rfl rfl ?_
                  refine g_iconst d_X7_order_39 ik_m1 ?_
                  refine w_istore (L' := [_, _, _, _, _, _, _, _, _]) d_X7_order_40 rfl rfl rfl ?_
                  refine g_iconst d_X7_order_42 ik_1 ?_
                  refine w_istore (L' := [_, _, _, _, _, _, _, _, _]) d_X7_order_43 rfl rfl rfl ?_
                  refine g_iload d_X7_order_45 rfl ?_
                  refine g_if_eq d_X7_order_47 (fun c47 => absurd c47 (by decide)) (fun c47 => ?_)
                  have hf0 : FrS (hset w 0 0 0) (rkW (hset w 0 0 0) 6) := rk_fs
                  have hmo := hS.mono (n := n) (by omega)
                  have hpos : ∀ l, inN N l → ¬ lateE (hv h 15) M N n l < 0 := fun l hl => by obtain ⟨A, B, -, e2, -, e4⟩ := hmo l hl; rw [e2]; exact nI_pos (by omega)
                  refine ev_order (l := idL) (s := ((-1 : Int32), (-1 : Int32), fun y => rkW (hset w 0 0 0) 6 17 y)) hI ((hs_j (by decide)).trans wN) (hS.2.1.th hM5 hN6) (by omega) (idL_in hN6) hf0 (fun y hy => by rw [rkW_at hy, idL_at y hy]) (fun y hy => rfl) (fun w2 y6 y7 y8 g1 g2 g3 => ?_) _ _ _
                  rw [if_pos (Or.inl (show (-1 : Int32) < 0 by decide))] at g3 ⊢
                  refine lp_order7 (w := hset w 0 0 0) hI ((hs_j (by decide)).trans wN) (hS.2.1.th hM5 hN6) (by omega) hpos 719 idL _ w2 y6 y7 y8 (ends_ok N hN6) (idL_in hN6) (hpos idL (idL_in hN6)) g1 g2 g3 (fun w3 y6 y7 y8 hf3 h17 => ?_)
                  have eb : scA (hv h 15) M N n 719 idL (lateE (hv h 15) M N n idL, dryE (hv h 15) M N n idL, lf idL) = (bestA (hv h 15) M N n) := rfl
                  rw [eb] at h17 ⊢
                  refine g_iload_n d_X7_order_152 rfl ?_
                  refine g_iconst d_X7_order_153 ik_m1 ?_
                  refine g_icmp_ne d_X7_order_154 (fun c154 => ?_) (fun c154 => absurd c154 (fun z => absurd k45 (by rw [z]; decide)))
                  refine g_iload_n d_X7_order_161 rfl ?_
                  refine g_aload_n d_X7_order_162 rfl ?_
                  refine h_getR d_X7_order_163 fl_7_28 sp_M rfl ?_
                  refine g_iconst d_X7_order_166 ik_1 ?_
                  refine mm_aldV (k := 1) (v := nI N) d_X7_order_167 (j := 7) sp_m_d rfl (by decide) rfl (by omega) (by decide) (hf3.w71 ((hs_j (by decide)).trans wN)) ?_
                  refine g_icmp_ge d_X7_order_168 (fun c168 => ?_) (fun c168 => absurd k64 c168)
                  refine g_ldc d_X7_order_180 kc_X7_207 ?_
                  refine h_iret d_X7_order_182 rfl ?_
                  exact ⟨rfl, _, _, rfl, hR2.fr (fr_thrown.tr hf3.fr)⟩
                · exfalso
                  simp only [b2i_eq0, b2i_ne0, Int32.lt_iff_toInt_lt, Int32.le_iff_toInt_le, t_0, t_1, t_2, t_3, t_4, t_5, t_6, t_7, t_8, t_9, t_10, t_11, t_12, t_20, t_24, t_40, t_50, t_60, t_99, t_110, t_255, t_999, t_999999, t_m1, en, gM, gN, eM, eN, eM1, eN1] at *
                  omega
            · exact absurd (b2i_ne0.mp c9) hM0
          · have k45 := c45
            have k64 := c64
            obtain ⟨k, hk, rfl⟩ := rngI (x := y) (B := N) (by simp only [b2i_eq0, b2i_ne0, Int32.lt_iff_toInt_lt, Int32.le_iff_toInt_le, t_0, t_1, t_2, t_3, t_4, t_5, t_6, t_7, t_8, t_9, t_10, t_11, t_12, t_20, t_24, t_40, t_50, t_60, t_99, t_110, t_255, t_999, t_999999, t_m1, en, gM, gN, eM, eN, eM1, eN1] at *; omega) (by simp only [b2i_eq0, b2i_ne0, Int32.lt_iff_toInt_lt, Int32.le_iff_toInt_le, t_0, t_1, t_2, t_3, t_4, t_5, t_6, t_7, t_8, t_9, t_10, t_11, t_12, t_20, t_24, t_40, t_50, t_60, t_99, t_110, t_255, t_999, t_999999, t_m1, en, gM, gN, eM, eN, eM1, eN1] at *; omega)
            have ek : (nI k).toInt = k := nI_toInt (by omega)
            refine g_aload_n d_X6_order_67 rfl ?_
            refine h_getR d_X6_order_68 fl_6_47 sp_L rfl ?_
            refine h_getR d_X6_order_71 fl_6_265 sp_Orders rfl ?_
            refine g_iload_n d_X6_order_74 rfl ?_
            refine h_aldV (k := k) (v := (bestA (hv h 15) M N n).2.2 k) d_X6_order_75 sp_best rfl (by omega) (by decide) ((mu_low (by decide)).trans (hB k hk)) ?_
            refine g_goto d_X6_order_76 ?_
            refine h_iret d_X6_order_81 rfl ?_
            refine ⟨_, rfl, ?_⟩
            refine MtH.of [some (.ref 360), some (.int (nI n)), some (.int (nI k)), none, none, none, none, none, none] pl_X7 rfl rfl ?_
            refine g_aload_n d_X7_order_0 rfl ?_
            refine g_iconst d_X7_order_1 ik_0 ?_
            refine mm_putI d_X7_order_2 fl_7_62 sp_M rfl ?_
            refine g_aload_n d_X7_order_5 rfl ?_
            refine h_V0i d_X7_order_6 cl_7_195 (m7_isNothing ((hs_j (by decide)).trans wM)) sp_M (by decide) rfl (Nat.le_of_ble_eq_true rfl) (by decide) ?_
            refine g_if_eq d_X7_order_9 (fun c9 => ?_) (fun c9 => ?_)
            · refine g_iload_n d_X7_order_15 rfl ?_
              refine g_iconst d_X7_order_16 ik_1 ?_
              refine g_bipush d_X7_order_17 bk_50 ?_
              refine h_S3i d_X7_order_19 cl_7_70 m7_in (Nat.le_of_ble_eq_true rfl) (by decide) ?_
              refine g_if_eq d_X7_order_22 (fun c22 => ?_) (fun c22 => ?_)
              · exfalso
                simp only [b2i_eq0, b2i_ne0, Int32.lt_iff_toInt_lt, Int32.le_iff_toInt_le, t_0, t_1, t_2, t_3, t_4, t_5, t_6, t_7, t_8, t_9, t_10, t_11, t_12, t_20, t_24, t_40, t_50, t_60, t_99, t_110, t_255, t_999, t_999999, t_m1, en, gM, gN, eM, eN, eM1, eN1, ek] at *
                omega
              · refine g_iload_n d_X7_order_25 rfl ?_
                refine g_iconst d_X7_order_26 ik_m1 ?_
                refine g_icmp_ge d_X7_order_27 (fun c27 => ?_) (fun c27 => ?_)
                · refine g_aload_n d_X7_order_33 rfl ?_
                  refine h_V0v d_X7_order_34 cl_7_181 m7_ranksByNumber sp_M (by decide) rfl (Nat.le_of_ble_eq_true rfl) (by decide) ?_
                  refine g_iconst d_X7_order_37 ik_m1 ?_
                  refine w_istore_n (L' := [_, _, _, _, _, _, _, _, _]) d_X7_order_38 rfl rfl rfl ?_
                  refine g_iconst d_X7_order_39 ik_m1 ?_
                  refine w_istore (L' := [_, _, _, _, _, _, _, _, _]) d_X7_order_40 rfl rfl rfl ?_
                  refine g_iconst d_X7_order_42 ik_1 ?_
                  refine w_istore (L' := [_, _, _, _, _, _, _, _, _]) d_X7_order_43 rfl rfl rfl ?_
                  refine g_iload d_X7_order_45 rfl ?_
                  refine g_if_eq d_X7_order_47 (fun c47 => absurd c47 (by decide)) (fun c47 => ?_)
                  have hf0 : FrS (hset w 0 0 0) (rkW (hset w 0 0 0) 6) := rk_fs
                  have hmo := hS.mono (n := n) (by omega)
                  have hpos : ∀ l, inN N l → ¬ lateE (hv h 15) M N n l < 0 := fun l hl => by obtain ⟨A, B, -, e2, -, e4⟩ := hmo l hl; rw [e2]; exact nI_pos (by omega)
                  refine ev_order (l := idL) (s := ((-1 : Int32), (-1 : Int32), fun y => rkW (hset w 0 0 0) 6 17 y)) hI ((hs_j (by decide)).trans wN) (hS.2.1.th hM5 hN6) (by omega) (idL_in hN6) hf0 (fun y hy => by rw [rkW_at hy, idL_at y hy]) (fun y hy => rfl) (fun w2 y6 y7 y8 g1 g2 g3 => ?_) _ _ _
                  rw [if_pos (Or.inl (show (-1 : Int32) < 0 by decide))] at g3 ⊢
                  refine lp_order7 (w := hset w 0 0 0) hI ((hs_j (by decide)).trans wN) (hS.2.1.th hM5 hN6) (by omega) hpos 719 idL _ w2 y6 y7 y8 (ends_ok N hN6) (idL_in hN6) (hpos idL (idL_in hN6)) g1 g2 g3 (fun w3 y6 y7 y8 hf3 h17 => ?_)
                  have eb : scA (hv h 15) M N n 719 idL (lateE (hv h 15) M N n idL, dryE (hv h 15) M N n idL, lf idL) = (bestA (hv h 15) M N n) := rfl
                  rw [eb] at h17 ⊢
                  refine g_iload_n d_X7_order_152 rfl ?_
                  refine g_iconst d_X7_order_153 ik_m1 ?_
                  refine g_icmp_ne d_X7_order_154 (fun c154 => ?_) (fun c154 => absurd c154 (nI_ne_m1 (by omega)))
                  refine g_iload_n d_X7_order_161 rfl ?_
                  refine g_aload_n d_X7_order_162 rfl ?_
                  refine h_getR d_X7_order_163 fl_7_28 sp_M rfl ?_
                  refine g_iconst d_X7_order_166 ik_1 ?_
                  refine mm_aldV (k := 1) (v := nI N) d_X7_order_167 (j := 7) sp_m_d rfl (by decide) rfl (by omega) (by decide) (hf3.w71 ((hs_j (by decide)).trans wN)) ?_
                  refine g_icmp_ge d_X7_order_168 (fun c168 => absurd c168 (nI_ge (a := k) (b := N) (by omega) (by omega))) (fun c168 => ?_)
                  refine g_aload_n d_X7_order_171 rfl ?_
                  refine h_getR d_X7_order_172 fl_7_59 sp_M rfl ?_
                  refine g_iload_n d_X7_order_175 rfl ?_
                  refine mm_aldV (k := k) (v := (bestA (hv h 15) M N n).2.2 k) d_X7_order_176 (j := 17) sp_m_bestM rfl (by decide) rfl (by omega) (by decide) (h17 _ (by omega)) ?_
                  refine g_goto d_X7_order_177 ?_
                  refine h_iret d_X7_order_182 rfl ?_
                  exact ⟨rfl, _, _, rfl, hR2.fr (fr_thrown.tr hf3.fr)⟩
                · exfalso
                  simp only [b2i_eq0, b2i_ne0, Int32.lt_iff_toInt_lt, Int32.le_iff_toInt_le, t_0, t_1, t_2, t_3, t_4, t_5, t_6, t_7, t_8, t_9, t_10, t_11, t_12, t_20, t_24, t_40, t_50, t_60, t_99, t_110, t_255, t_999, t_999999, t_m1, en, gM, gN, eM, eN, eM1, eN1, ek] at *
                  omega
            · exact absurd (b2i_ne0.mp c9) hM0
        · refine g_aload_n d_X6_order_48 rfl ?_
          refine h_getR d_X6_order_49 fl_6_47 sp_L rfl ?_
          refine h_getV (v := (bestA (hv h 15) M N n).1) d_X6_order_52 fl_6_259 sp_Orders rfl ((mu_low (by decide)).trans h1) ?_
          refine h_iret d_X6_order_55 rfl ?_
          have hy : y = -1 := Int32.toInt_inj.mp (by rw [t_m1]; simp only [b2i_eq0, b2i_ne0, Int32.lt_iff_toInt_lt, Int32.le_iff_toInt_le, t_0, t_1, t_2, t_3, t_4, t_5, t_6, t_7, t_8, t_9, t_10, t_11, t_12, t_20, t_24, t_40, t_50, t_60, t_99, t_110, t_255, t_999, t_999999, t_m1, en, gM, gN, eM, eN, eM1, eN1] at *; omega)
          subst hy
          refine ⟨_, rfl, ?_⟩
          refine MtH.of [some (.ref 360), some (.int (nI n)), some (.int (-1)), none, none, none, none, none, none] pl_X7 rfl rfl ?_
          refine g_aload_n d_X7_order_0 rfl ?_
          refine g_iconst d_X7_order_1 ik_0 ?_
          refine mm_putI d_X7_order_2 fl_7_62 sp_M rfl ?_
          refine g_aload_n d_X7_order_5 rfl ?_
          refine h_V0i d_X7_order_6 cl_7_195 (m7_isNothing ((hs_j (by decide)).trans wM)) sp_M (by decide) rfl (Nat.le_of_ble_eq_true rfl) (by decide) ?_
          refine g_if_eq d_X7_order_9 (fun c9 => ?_) (fun c9 => ?_)
          · refine g_iload_n d_X7_order_15 rfl ?_
            refine g_iconst d_X7_order_16 ik_1 ?_
            refine g_bipush d_X7_order_17 bk_50 ?_
            refine h_S3i d_X7_order_19 cl_7_70 m7_in (Nat.le_of_ble_eq_true rfl) (by decide) ?_
            refine g_if_eq d_X7_order_22 (fun c22 => ?_) (fun c22 => ?_)
            · exfalso
              simp only [b2i_eq0, b2i_ne0, Int32.lt_iff_toInt_lt, Int32.le_iff_toInt_le, t_0, t_1, t_2, t_3, t_4, t_5, t_6, t_7, t_8, t_9, t_10, t_11, t_12, t_20, t_24, t_40, t_50, t_60, t_99, t_110, t_255, t_999, t_999999, t_m1, en, gM, gN, eM, eN, eM1, eN1] at *
              omega
            · refine g_iload_n d_X7_order_25 rfl ?_
              refine g_iconst d_X7_order_26 ik_m1 ?_
              refine g_icmp_ge d_X7_order_27 (fun c27 => ?_) (fun c27 => ?_)
              · refine g_aload_n d_X7_order_33 rfl ?_
                refine h_V0v d_X7_order_34 cl_7_181 m7_ranksByNumber sp_M (by decide) rfl (Nat.le_of_ble_eq_true rfl) (by decide) ?_
                refine g_iconst d_X7_order_37 ik_m1 ?_
                refine w_istore_n (L' := [_, _, _, _, _, _, _, _, _]) d_X7_order_38 rfl rfl rfl ?_
                refine g_iconst d_X7_order_39 ik_m1 ?_
                refine w_istore (L' := [_, _, _, _, _, _, _, _, _]) d_X7_order_40 rfl rfl rfl ?_
                refine g_iconst d_X7_order_42 ik_1 ?_
                refine w_istore (L' := [_, _, _, _, _, _, _, _, _]) d_X7_order_43 rfl rfl rfl ?_
                refine g_iload d_X7_order_45 rfl ?_
                refine g_if_eq d_X7_order_47 (fun c47 => absurd c47 (by decide)) (fun c47 => ?_)
                have hf0 : FrS (hset w 0 0 0) (rkW (hset w 0 0 0) 6) := rk_fs
                have hmo := hS.mono (n := n) (by omega)
                have hpos : ∀ l, inN N l → ¬ lateE (hv h 15) M N n l < 0 := fun l hl => by obtain ⟨A, B, -, e2, -, e4⟩ := hmo l hl; rw [e2]; exact nI_pos (by omega)
                refine ev_order (l := idL) (s := ((-1 : Int32), (-1 : Int32), fun y => rkW (hset w 0 0 0) 6 17 y)) hI ((hs_j (by decide)).trans wN) (hS.2.1.th hM5 hN6) (by omega) (idL_in hN6) hf0 (fun y hy => by rw [rkW_at hy, idL_at y hy]) (fun y hy => rfl) (fun w2 y6 y7 y8 g1 g2 g3 => ?_) _ _ _
                rw [if_pos (Or.inl (show (-1 : Int32) < 0 by decide))] at g3 ⊢
                refine lp_order7 (w := hset w 0 0 0) hI ((hs_j (by decide)).trans wN) (hS.2.1.th hM5 hN6) (by omega) hpos 719 idL _ w2 y6 y7 y8 (ends_ok N hN6) (idL_in hN6) (hpos idL (idL_in hN6)) g1 g2 g3 (fun w3 y6 y7 y8 hf3 h17 => ?_)
                have eb : scA (hv h 15) M N n 719 idL (lateE (hv h 15) M N n idL, dryE (hv h 15) M N n idL, lf idL) = (bestA (hv h 15) M N n) := rfl
                rw [eb] at h17 ⊢
                refine g_iload_n d_X7_order_152 rfl ?_
                refine g_iconst d_X7_order_153 ik_m1 ?_
                refine g_icmp_ne d_X7_order_154 (fun c154 => absurd rfl c154) (fun c154 => ?_)
                refine g_iload_n d_X7_order_157 rfl ?_
                refine g_goto d_X7_order_158 ?_
                refine h_iret d_X7_order_182 rfl ?_
                exact ⟨rfl, _, _, rfl, hR2.fr (fr_thrown.tr hf3.fr)⟩
              · exfalso
                simp only [b2i_eq0, b2i_ne0, Int32.lt_iff_toInt_lt, Int32.le_iff_toInt_le, t_0, t_1, t_2, t_3, t_4, t_5, t_6, t_7, t_8, t_9, t_10, t_11, t_12, t_20, t_24, t_40, t_50, t_60, t_99, t_110, t_255, t_999, t_999999, t_m1, en, gM, gN, eM, eN, eM1, eN1] at *
                omega
          · exact absurd (b2i_ne0.mp c9) hM0
      · refine g_ldc d_X6_order_25 kc_X6_66 ?_
        refine h_iret d_X6_order_27 rfl ?_
        refine ⟨_, rfl, ?_⟩
        refine MtH.of [some (.ref 360), some (.int x), some (.int y), none, none, none, none, none, none] pl_X7 rfl rfl ?_
        refine g_aload_n d_X7_order_0 rfl ?_
        refine g_iconst d_X7_order_1 ik_0 ?_
        refine mm_putI d_X7_order_2 fl_7_62 sp_M rfl ?_
        refine g_aload_n d_X7_order_5 rfl ?_
        refine h_V0i d_X7_order_6 cl_7_195 (m7_isNothing ((hs_j (by decide)).trans wM)) sp_M (by decide) rfl (Nat.le_of_ble_eq_true rfl) (by decide) ?_
        refine g_if_eq d_X7_order_9 (fun c9 => ?_) (fun c9 => ?_)
        · refine g_iload_n d_X7_order_15 rfl ?_
          refine g_iconst d_X7_order_16 ik_1 ?_
          refine g_bipush d_X7_order_17 bk_50 ?_
          refine h_S3i d_X7_order_19 cl_7_70 m7_in (Nat.le_of_ble_eq_true rfl) (by decide) ?_
          refine g_if_eq d_X7_order_22 (fun c22 => ?_) (fun c22 => ?_)
          · refine g_ldc d_X7_order_30 kc_X7_78 ?_
            refine h_iret d_X7_order_32 rfl ?_
            exact ⟨rfl, _, _, rfl, hR.fr fr_thrown⟩
          · refine g_iload_n d_X7_order_25 rfl ?_
            refine g_iconst d_X7_order_26 ik_m1 ?_
            refine g_icmp_ge d_X7_order_27 (fun c27 => ?_) (fun c27 => ?_)
            · exfalso
              simp only [b2i_eq0, b2i_ne0, Int32.lt_iff_toInt_lt, Int32.le_iff_toInt_le, t_0, t_1, t_2, t_3, t_4, t_5, t_6, t_7, t_8, t_9, t_10, t_11, t_12, t_20, t_24, t_40, t_50, t_60, t_99, t_110, t_255, t_999, t_999999, t_m1, gM, gN, eM, eN, eM1, eN1] at *
              omega
            · refine g_ldc d_X7_order_30 kc_X7_78 ?_
              refine h_iret d_X7_order_32 rfl ?_
              exact ⟨rfl, _, _, rfl, hR.fr fr_thrown⟩
        · exact absurd (b2i_ne0.mp c9) hM0
  · refine g_ldc d_X6_order_10 kc_X6_141 ?_
    refine h_iret d_X6_order_12 rfl ?_
    refine ⟨_, rfl, ?_⟩
    refine MtH.of [some (.ref 360), some (.int x), some (.int y), none, none, none, none, none, none] pl_X7 rfl rfl ?_
    refine g_aload_n d_X7_order_0 rfl ?_
    refine g_iconst d_X7_order_1 ik_0 ?_
    refine mm_putI d_X7_order_2 fl_7_62 sp_M rfl ?_
    refine g_aload_n d_X7_order_5 rfl ?_
    refine h_V0i d_X7_order_6 cl_7_195 (m7_isNothing ((hs_j (by decide)).trans wM)) sp_M (by decide) rfl (Nat.le_of_ble_eq_true rfl) (by decide) ?_
    refine g_if_eq d_X7_order_9 (fun c9 => ?_) (fun c9 => ?_)
    · exact absurd (gM.symm.trans (b2i_ne0.mp c7)) (b2i_eq0.mp c9)
    · refine g_ldc d_X7_order_12 kc_X7_194 ?_
      refine h_iret d_X7_order_14 rfl ?_
      exact ⟨rfl, _, _, rfl, hR.fr fr_thrown⟩
