/-! OPS: who, sizes -/
theorem m7_againstA {h w : Hv} {r : Nat} (hr : r < 8) {i n : Int32} (h3 : w 3 r = -1) : MtF M_X7_against 2 [.ref 360, .int (nI r), .int i, .int n] (mu h w) (some (.int (-1000010 - 1))) (mu h (hset w 0 4 1)) := by
  refine MtF.of [some (.ref 360), some (.int (nI r)), some (.int i), some (.int n)] pl_X7 rfl rfl ?_
  refine g_aload_n d_X7_against_0 rfl ?_
  refine h_getR d_X7_against_1 fl_7_16 sp_M rfl ?_
  refine g_iload_n d_X7_against_4 rfl ?_
  refine mm_aldV (k := r) (v := -1) d_X7_against_5 (j := 3) sp_m_rowSize rfl (by decide) rfl (by omega) (by decide) (h3) ?_
  refine g_if_ge d_X7_against_6 (fun c6 => absurd c6 (by decide)) (fun c6 => ?_)
  refine g_aload_n d_X7_against_9 rfl ?_
  refine g_iconst d_X7_against_10 ik_1 ?_
  refine h_V1i d_X7_against_11 cl_7_79 m7_found sp_M (by decide) rfl (Nat.le_of_ble_eq_true rfl) (by decide) ?_
  refine g_goto d_X7_against_14 ?_
  refine h_iret d_X7_against_36 rfl ?_
  exact ⟨rfl, rfl⟩
theorem m7_againstB {h w : Hv} {r : Nat} (hr : r < 8) {i n : Int32} {m : Nat} (h3 : w 3 r = nI m) (hm : m ≤ 40) (hp : ¬ PL i n m) : MtF M_X7_against 2 [.ref 360, .int (nI r), .int i, .int n] (mu h w) (some (.int (-1000010 - 2))) (mu h (hset w 0 4 2)) := by
  refine MtF.of [some (.ref 360), some (.int (nI r)), some (.int i), some (.int n)] pl_X7 rfl rfl ?_
  refine g_aload_n d_X7_against_0 rfl ?_
  refine h_getR d_X7_against_1 fl_7_16 sp_M rfl ?_
  refine g_iload_n d_X7_against_4 rfl ?_
  refine mm_aldV (k := r) (v := nI m) d_X7_against_5 (j := 3) sp_m_rowSize rfl (by decide) rfl (by omega) (by decide) (h3) ?_
  refine g_if_ge d_X7_against_6 (fun c6 => ?_) (fun c6 => absurd (show (0 : Int32) ≤ nI m from nI_le (a := 0) (b := m) (by omega) (by omega)) c6)
  refine g_aload_n d_X7_against_17 rfl ?_
  refine g_iload_n d_X7_against_18 rfl ?_
  refine g_iload_n d_X7_against_19 rfl ?_
  refine g_iload_n d_X7_against_20 rfl ?_
  refine h_V3i d_X7_against_21 cl_7_86 (m7_isPart rfl hr h3 hm) sp_M (by decide) rfl (Nat.le_of_ble_eq_true rfl) (by decide) ?_
  refine g_if_ne d_X7_against_24 (fun c24 => absurd (b2i_f hp) c24) (fun c24 => ?_)
  refine g_aload_n d_X7_against_27 rfl ?_
  refine g_iconst d_X7_against_28 ik_2 ?_
  refine h_V1i d_X7_against_29 cl_7_79 m7_found sp_M (by decide) rfl (Nat.le_of_ble_eq_true rfl) (by decide) ?_
  refine g_goto d_X7_against_32 ?_
  refine h_iret d_X7_against_36 rfl ?_
  exact ⟨rfl, rfl⟩
theorem m7_againstC {h w : Hv} {r : Nat} (hr : r < 8) {i n : Int32} {m : Nat} (h3 : w 3 r = nI m) (hm : m ≤ 40) (hp : PL i n m) : MtF M_X7_against 2 [.ref 360, .int (nI r), .int i, .int n] (mu h w) (some (.int 0)) (mu h w) := by
  refine MtF.of [some (.ref 360), some (.int (nI r)), some (.int i), some (.int n)] pl_X7 rfl rfl ?_
  refine g_aload_n d_X7_against_0 rfl ?_
  refine h_getR d_X7_against_1 fl_7_16 sp_M rfl ?_
  refine g_iload_n d_X7_against_4 rfl ?_
  refine mm_aldV (k := r) (v := nI m) d_X7_against_5 (j := 3) sp_m_rowSize rfl (by decide) rfl (by omega) (by decide) (h3) ?_
  refine g_if_ge d_X7_against_6 (fun c6 => ?_) (fun c6 => absurd (show (0 : Int32) ≤ nI m from nI_le (a := 0) (b := m) (by omega) (by omega)) c6)
  refine g_aload_n d_X7_against_17 rfl ?_
  refine g_iload_n d_X7_against_18 rfl ?_
  refine g_iload_n d_X7_against_19 rfl ?_
  refine g_iload_n d_X7_against_20 rfl ?_
  refine h_V3i d_X7_against_21 cl_7_86 (m7_isPart rfl hr h3 hm) sp_M (by decide) rfl (Nat.le_of_ble_eq_true rfl) (by decide) ?_
  refine g_if_ne d_X7_against_24 (fun c24 => ?_) (fun c24 => absurd c24 (b2i_ne0.mpr hp))
  refine g_iconst d_X7_against_35 ik_0 ?_
  refine h_iret d_X7_against_36 rfl ?_
  exact ⟨rfl, rfl⟩
theorem fnd {h w : Hv} (hR : RRows h w) {r n : Nat} (hr : r < 8) {i : Int32} (hn : n ≤ 12) :
    ((MtF M_X4_findingOf 1 [.ref 1, .int (nI r), .int i, .int (nI n)] (mu h w) (some (.int 1)) (mu h w)) ∧ ∀ H, MtF M_X7_against 2 [.ref 360, .int (nI r), .int i, .int (nI n)] (mu H (hset w 0 0 0)) (some (.int (-1000010 - 1))) (mu H (hset (hset w 0 0 0) 0 4 1))) ∨ ((MtF M_X4_findingOf 1 [.ref 1, .int (nI r), .int i, .int (nI n)] (mu h w) (some (.int 2)) (mu h w)) ∧ ∀ H, MtF M_X7_against 2 [.ref 360, .int (nI r), .int i, .int (nI n)] (mu H (hset w 0 0 0)) (some (.int (-1000010 - 2))) (mu H (hset (hset w 0 0 0) 0 4 2))) ∨ ∃ i0, i = nI i0 ∧ i0 + n ≤ 40 ∧ (∀ t, t < n → h (5 + r) (i0 + t) = w 1 (40 * r + i0 + t)) ∧ (MtF M_X4_findingOf 1 [.ref 1, .int (nI r), .int i, .int (nI n)] (mu h w) (some (.int 0)) (mu h w)) ∧ ∀ H, MtF M_X7_against 2 [.ref 360, .int (nI r), .int i, .int (nI n)] (mu H (hset w 0 0 0)) (some (.int (0))) (mu H (hset w 0 0 0)) := by
  have en : (nI n).toInt = n := nI_toInt (by omega)
  rcases hR r hr with ⟨q2, q3⟩ | ⟨a, m, ha, hm, q2, w2, q3, w3, qi⟩
  · refine Or.inl ⟨?_, fun H => m7_againstA hr ((hs_j (by decide)).trans q3)⟩
    have z := m_findingOf (h := mu h w) (x := nI r) (i := i) (n := nI n) rfl hr
    rw [mu_low (a := 2) (by decide), q2, if_pos rfl] at z
    exact z
  · have z := m_findingOf (h := mu h w) (x := nI r) (i := i) (n := nI n) rfl hr
    rw [mu_low (a := 2) (by decide), mu_low (a := 3) (by decide), q2, q3, if_neg (nI_ne_m1 (by omega))] at z
    by_cases hp : PL i (nI n) m
    · rw [if_pos ((pl_cls hm).mpr hp)] at z
      obtain ⟨i0, h0, rfl⟩ := rngI (x := i) (B := 41) hp.1 (by have := hp.2; rw [en] at this; omega)
      have ei : (nI i0).toInt = i0 := nI_toInt (by omega)
      have h9 : i0 + n ≤ m := by have := hp.2.2; rw [en, ei] at this; omega
      exact Or.inr (Or.inr ⟨i0, rfl, by omega, fun t ht => by rw [qi (i0 + t) (by omega), Nat.add_assoc], z, fun H => m7_againstC hr ((hs_j (by decide)).trans w3) hm hp⟩)
    · rw [if_neg (fun q => hp ((pl_cls hm).mp q))] at z
      exact Or.inr (Or.inl ⟨z, fun H => m7_againstB hr ((hs_j (by decide)).trans w3) hm hp⟩)
def ftS (M N : Nat) (row : Nat → Int32) : Nat → Nat → Hv → Int32
  | 0, _, _ => 1
  | n + 1, t, g => if nI (cntS (tickS g M N) 1 N) + 10 * nI (cntS (tickS g M N) 2 N) = row t then ftS M N row n (t + 1) (tickS g M N) else 0
def woS (p : Nat → Int32) : Nat → Nat → Int32 → Int32
  | 0, _, a => a
  | m + 1, v, a => woS p m (v + 1) (if p v = 0 then a else a ||| 1 <<< (nI v &&& 31))
theorem RelP.stat2 {h w : Hv} (hR : RelP h w) (v : Int32) : RelP (hset h 0 9 v) (hset w 0 4 v) := by
  refine hR.rows (fun x y a b => hs_ne a) (fun x y a b => hs_ne (by omega)) ?_ ?_
  · unfold RStat; rw [hs_at, hs_at]
  · exact hR.2.1.cg (fun x y a b => hs_j (by omega)) (by funext y; rw [hs_j (by decide)]) (by funext y; rw [hs_j (by decide)]) (by funext y; rw [hs_j (by decide)])
theorem lp_fits {H : Hv} {M N r i n : Nat} {row : Nat → Int32} (hr : r < 8) (hi : i + n ≤ 40) (hrow : ∀ t, t < n → H (5 + r) (i + t) = row t) : ∀ (m t : Nat) (g : Hv), t + m = n → HI M N g → GdH M_X6_fits 4 3 [some (.ref 0), some (.ref 27), some (.int (nI r)), some (.int (nI i)), some (.int (nI n)), some (.int (nI t))] [] (pu H 27 g) (fun v' h' => v' = some (.int (ftS M N row m t g)) ∧ ∃ g', h' = pu H 27 g') := by
  intro m
  induction m with
  | zero =>
    intro t g ht hI
    refine g_iload d_X6_fits_3 rfl ?_
    refine g_iload d_X6_fits_5 rfl ?_
    refine g_icmp_ge d_X6_fits_7 (fun c7 => ?_) (fun c7 => absurd (nI_le (a := n) (b := t) (by omega) (by omega)) c7)
    refine g_iconst d_X6_fits_53 ik_1 ?_
    refine h_zret d_X6_fits_54 rfl rfl ?_
    exact ⟨rfl, _, rfl⟩
  | succ m ih =>
    intro t g ht hI
    have hI2 := hI.tickS
    refine g_iload d_X6_fits_3 rfl ?_
    refine g_iload d_X6_fits_5 rfl ?_
    refine g_icmp_ge d_X6_fits_7 (fun c7 => absurd c7 (nI_ge (a := t) (b := n) (by omega) (by omega))) (fun c7 => ?_)
    refine g_aload_n d_X6_fits_10 rfl ?_
    refine h_V0v d_X6_fits_11 cl_6_164 (m_passTickI hall_27 hI) (sp_hall hall_27) (by decide) rfl (Nat.le_of_ble_eq_true rfl) (by decide) ?_
    refine g_aload_n d_X6_fits_14 rfl ?_
    refine g_iconst d_X6_fits_15 ik_1 ?_
    refine h_V1i d_X6_fits_16 cl_6_286 (m_howManyAre hall_27 hI2.hN hI2.hN6) (sp_hall hall_27) (by decide) rfl (Nat.le_of_ble_eq_true rfl) (by decide) ?_
    refine g_bipush d_X6_fits_19 bk_10 ?_
    refine g_aload_n d_X6_fits_21 rfl ?_
    refine g_iconst d_X6_fits_22 ik_2 ?_
    refine h_V1i d_X6_fits_23 cl_6_286 (m_howManyAre hall_27 hI2.hN hI2.hN6) (sp_hall hall_27) (by decide) rfl (Nat.le_of_ble_eq_true rfl) (by decide) ?_
    refine g_imul d_X6_fits_26 ?_
    refine g_iadd d_X6_fits_27 ?_
    refine g_aload_n d_X6_fits_28 rfl ?_
    refine h_getR d_X6_fits_29 fl_6_10 sp_L rfl ?_
    refine h_getR d_X6_fits_32 fl_6_95 sp_Rows rfl ?_
    refine g_iload_n d_X6_fits_35 rfl ?_
    refine h_aaldI d_X6_fits_36 sp_items (nI_pos (by omega)) (items_at hr) ?_
    refine g_iload_n d_X6_fits_37 rfl ?_
    refine g_iload d_X6_fits_38 rfl ?_
    refine g_iadd d_X6_fits_40 ?_
    refine h_aldV (k := (i + t)) (v := row t) d_X6_fits_41 (sp_item hr) (nAdd rfl rfl) (by omega) (by decide) ((pu_out (by omega)).trans (hrow t (by omega))) ?_
    refine g_icmp_eq d_X6_fits_42 (fun c42 => ?_) (fun c42 => ?_)
    · refine w_iinc (L' := [_, _, _, _, _, _]) d_X6_fits_47 ik_1 rfl rfl rfl rfl ?_
      refine g_goto d_X6_fits_50 ?_
      rw [nI_1]
      refine h_weaken (ih (t + 1) _ (by omega) hI2) ?_
      intro v' h' hp
      exact ⟨by rw [hp.1, ftS, if_pos c42], hp.2⟩
    · refine g_iconst d_X6_fits_45 ik_0 ?_
      refine h_zret d_X6_fits_46 rfl rfl ?_
      exact ⟨by rw [ftS, if_neg c42], _, rfl⟩
theorem m6_fits {H g : Hv} {M N r i n : Nat} {row : Nat → Int32} (hI : HI M N g) (hr : r < 8) (hi : i + n ≤ 40) (hrow : ∀ t, t < n → H (5 + r) (i + t) = row t) : MtH M_X6_fits 4 [.ref 0, .ref 27, .int (nI r), .int (nI i), .int (nI n)] (pu H 27 g) ((fun v' h' => v' = some (.int (ftS M N row n 0 g)) ∧ ∃ g', h' = pu H 27 g')) := by
  refine MtH.of [some (.ref 0), some (.ref 27), some (.int (nI r)), some (.int (nI i)), some (.int (nI n)), none] pl_X6 rfl rfl ?_
  refine g_iconst d_X6_fits_0 ik_0 ?_
  refine w_istore (L' := [_, _, _, _, _, _]) d_X6_fits_1 rfl rfl rfl ?_
  exact lp_fits hr hi hrow n 0 g (by omega) hI
theorem lp_goesSo {h w : Hv} {M N r i n : Nat} {row : Nat → Int32} (wN : w 7 1 = nI N) (hr : r < 8) (hi : i + n ≤ 40) (hrow : ∀ t, t < n → w 1 (40 * r + i + t) = row t) : ∀ (m t : Nat) (g w' : Hv), t + m = n → HI M N g → RepM M N g w' 9 10 → FrS w w' → GdH M_X7_goesSo 3 3 [some (.ref 360), some (.int (nI r)), some (.int (nI i)), some (.int (nI n)), some (.int (nI t))] [] (mu h w') (fun v' h' => v' = some (.int (ftS M N row m t g)) ∧ ∃ w2, h' = mu h w2 ∧ FrS w w2) := by
  intro m
  induction m with
  | zero =>
    intro t g w' ht hI hp hf
    refine g_iload d_X7_goesSo_3 rfl ?_
    refine g_iload_n d_X7_goesSo_5 rfl ?_
    refine g_icmp_ge d_X7_goesSo_6 (fun c6 => ?_) (fun c6 => absurd (nI_le (a := n) (b := t) (by omega) (by omega)) c6)
    refine g_iconst d_X7_goesSo_74 ik_1 ?_
    refine h_zret d_X7_goesSo_75 rfl rfl ?_
    exact ⟨rfl, _, rfl, hf⟩
  | succ m ih =>
    intro t g w' ht hI hp hf
    have hI2 := hI.tickS
    refine g_iload d_X7_goesSo_3 rfl ?_
    refine g_iload_n d_X7_goesSo_5 rfl ?_
    refine g_icmp_ge d_X7_goesSo_6 (fun c6 => absurd c6 (nI_ge (a := t) (b := n) (by omega) (by omega))) (fun c6 => ?_)
    refine g_aload_n d_X7_goesSo_9 rfl ?_
    refine g_aload_n d_X7_goesSo_10 rfl ?_
    refine h_getR d_X7_goesSo_11 fl_7_34 sp_M rfl ?_
    refine g_aload_n d_X7_goesSo_14 rfl ?_
    refine h_getR d_X7_goesSo_15 fl_7_37 sp_M rfl ?_
    refine h_V2P d_X7_goesSo_18 cl_7_174 (m7_ticksOne ar_e ar_w (Or.inr ⟨rfl, rfl⟩) hp hI) sp_M (by decide) rfl (Nat.le_of_ble_eq_true rfl) (by decide) ?_
    intro v' h' hp
    obtain ⟨rfl, w2, rfl, hr2, hf2, hd2⟩ := hp
    refine g_aload_n d_X7_goesSo_21 rfl ?_
    refine g_aload_n d_X7_goesSo_22 rfl ?_
    refine h_getR d_X7_goesSo_23 fl_7_37 sp_M rfl ?_
    refine g_iconst d_X7_goesSo_26 ik_1 ?_
    refine h_V2i d_X7_goesSo_27 cl_7_191 (m7_howAll ar_w hr2.r0 hI2.hN6 ((hf.tr hf2.fs).w71 wN)) sp_M (by decide) rfl (Nat.le_of_ble_eq_true rfl) (by decide) ?_
    refine h_S1i d_X7_goesSo_30 cl_7_228 (m7_ones (whS_eq _ 1 _ hI2.hN6) (Nat.lt_of_lt_of_le (whN_lt _ 1 _) (pow6 hI2.hN6))) (Nat.le_of_ble_eq_true rfl) (by decide) ?_
    rw [cntS_eq _ 1 _ hI2.hN6]
    refine g_bipush d_X7_goesSo_33 bk_10 ?_
    refine g_aload_n d_X7_goesSo_35 rfl ?_
    refine g_aload_n d_X7_goesSo_36 rfl ?_
    refine h_getR d_X7_goesSo_37 fl_7_37 sp_M rfl ?_
    refine g_iconst d_X7_goesSo_40 ik_2 ?_
    refine h_V2i d_X7_goesSo_41 cl_7_191 (m7_howAll ar_w hr2.r0 hI2.hN6 ((hf.tr hf2.fs).w71 wN)) sp_M (by decide) rfl (Nat.le_of_ble_eq_true rfl) (by decide) ?_
    refine h_S1i d_X7_goesSo_44 cl_7_228 (m7_ones (whS_eq _ 2 _ hI2.hN6) (Nat.lt_of_lt_of_le (whN_lt _ 2 _) (pow6 hI2.hN6))) (Nat.le_of_ble_eq_true rfl) (by decide) ?_
    rw [cntS_eq _ 2 _ hI2.hN6]
    refine g_imul d_X7_goesSo_47 ?_
    refine g_iadd d_X7_goesSo_48 ?_
    refine g_aload_n d_X7_goesSo_49 rfl ?_
    refine h_getR d_X7_goesSo_50 fl_7_7 sp_M rfl ?_
    refine g_bipush d_X7_goesSo_53 bk_40 ?_
    refine g_iload_n d_X7_goesSo_55 rfl ?_
    refine g_imul d_X7_goesSo_56 ?_
    refine g_iload_n d_X7_goesSo_57 rfl ?_
    refine g_iadd d_X7_goesSo_58 ?_
    refine g_iload d_X7_goesSo_59 rfl ?_
    refine g_iadd d_X7_goesSo_61 ?_
    refine mm_aldV (k := (((40 * r) + i) + t)) (v := row t) d_X7_goesSo_62 (j := 1) sp_m_rows rfl (by decide) (nAdd (nAdd (nMul rfl rfl) rfl) rfl) (by omega) (by decide) (((hf.tr hf2.fs) 1 _ (by decide) (by decide) (by decide) (by decide) (by decide) (by omega)).trans (hrow t (by omega))) ?_
    refine g_icmp_eq d_X7_goesSo_63 (fun c63 => ?_) (fun c63 => ?_)
    · refine w_iinc (L' := [_, _, _, _, _]) d_X7_goesSo_68 ik_1 rfl rfl rfl rfl ?_
      refine g_goto d_X7_goesSo_71 ?_
      rw [nI_1]
      refine h_weaken (ih (t + 1) _ w2 (by omega) hI2 hr2 (hf.tr hf2.fs)) ?_
      intro v' h' hp
      exact ⟨by rw [hp.1, ftS, if_pos c63], hp.2⟩
    · refine g_iconst d_X7_goesSo_66 ik_0 ?_
      refine h_zret d_X7_goesSo_67 rfl rfl ?_
      exact ⟨by rw [ftS, if_neg c63], _, rfl, hf.tr hf2.fs⟩
theorem m7_goesSo {h w w' g : Hv} {M N r i n : Nat} {row : Nat → Int32} (wN : w 7 1 = nI N) (hI : HI M N g) (hp : RepM M N g w' 9 10) (hf : FrS w w') (hr : r < 8) (hi : i + n ≤ 40) (hrow : ∀ t, t < n → w 1 (40 * r + i + t) = row t) : MtH M_X7_goesSo 3 [.ref 360, .int (nI r), .int (nI i), .int (nI n)] (mu h w') ((fun v' h' => v' = some (.int (ftS M N row n 0 g)) ∧ ∃ w2, h' = mu h w2 ∧ FrS w w2)) := by
  refine MtH.of [some (.ref 360), some (.int (nI r)), some (.int (nI i)), some (.int (nI n)), none] pl_X7 rfl rfl ?_
  refine g_iconst d_X7_goesSo_0 ik_0 ?_
  refine w_istore (L' := [_, _, _, _, _]) d_X7_goesSo_1 rfl rfl rfl ?_
  exact lp_goesSo wN hr hi hrow n 0 g w' (by omega) hI hp hf
theorem m6_isTold {h : Hv} {x : Int32} : MtF M_X6_isTold 0 [.int x] (h) (some (.int (b2i (¬ x < 1 ∧ ¬ 12 < x)))) (h) := by
  refine MtF.of [some (.int x)] pl_X6 rfl rfl ?_
  refine g_iload_n d_X6_isTold_0 rfl ?_
  refine g_iconst d_X6_isTold_1 ik_1 ?_
  refine g_icmp_lt d_X6_isTold_2 (fun c2 => ?_) (fun c2 => ?_)
  · refine g_iconst d_X6_isTold_15 ik_0 ?_
    refine h_zret d_X6_isTold_16 rfl rfl ?_
    exact pF (by simp [b2i, *]) rfl
  · refine g_iload_n d_X6_isTold_5 rfl ?_
    refine g_bipush d_X6_isTold_6 bk_12 ?_
    refine g_icmp_gt d_X6_isTold_8 (fun c8 => ?_) (fun c8 => ?_)
    · refine g_iconst d_X6_isTold_15 ik_0 ?_
      refine h_zret d_X6_isTold_16 rfl rfl ?_
      exact pF (by simp [b2i, *]) rfl
    · refine g_iconst d_X6_isTold_11 ik_1 ?_
      refine g_goto d_X6_isTold_12 ?_
      refine h_zret d_X6_isTold_16 rfl rfl ?_
      exact pF (by simp [b2i, *]) rfl
theorem rep_a0 {M N ja jb : Nat} {g w : Hv} (hR : RepM M N g w ja jb) (hJ : JJ ja jb) (hM5 : M ≤ 5) (hN6 : N ≤ 6) {k : Nat} {v : Int32} (hk : k < M) : RepM M N (hset g 1 k v) (hset w ja (2 + k) v) ja jb := by
  unfold JJ at hJ
  obtain ⟨⟨a0, a1, a2, a3, a4⟩, hb, hc, hd⟩ := hR
  refine ⟨⟨?_, ?_, ?_, ?_, ?_⟩, fun k' hk' => ?_, fun l' hl' => ?_, fun j' hj' => ?_⟩
  · unfold hset; repeat' split
    all_goals first | assumption | rfl | omega
  · unfold hset; repeat' split
    all_goals first | assumption | rfl | omega
  · unfold hset; repeat' split
    all_goals first | assumption | rfl | omega
  · unfold hset; repeat' split
    all_goals first | assumption | rfl | omega
  · unfold hset; repeat' split
    all_goals first | assumption | rfl | omega
  · obtain ⟨b1, b2, b3, b4, b5, b6⟩ := hb k' hk'
    unfold hset
    refine ⟨?_, ?_, ?_, ?_, ?_, ?_⟩
    all_goals repeat' split
    all_goals first | assumption | rfl | omega
  · obtain ⟨c1, c2, c3, c4⟩ := hc l' hl'
    unfold hset
    refine ⟨?_, ?_, ?_, ?_⟩
    all_goals repeat' split
    all_goals first | assumption | rfl | omega | (intro e9; first | rfl | exact absurd e9 h9 | exact c4 e9 | omega) | skip
  · have d1 := hd j' hj'
    unfold hset
    repeat' split
    all_goals first | assumption | rfl | omega
theorem rep_a1 {M N ja jb : Nat} {g w : Hv} (hR : RepM M N g w ja jb) (hJ : JJ ja jb) (hM5 : M ≤ 5) (hN6 : N ≤ 6) {k : Nat} {v : Int32} (hk : k < M) : RepM M N (hset g 2 k v) (hset w ja (7 + k) v) ja jb := by
  unfold JJ at hJ
  obtain ⟨⟨a0, a1, a2, a3, a4⟩, hb, hc, hd⟩ := hR
  refine ⟨⟨?_, ?_, ?_, ?_, ?_⟩, fun k' hk' => ?_, fun l' hl' => ?_, fun j' hj' => ?_⟩
  · unfold hset; repeat' split
    all_goals first | assumption | rfl | omega
  · unfold hset; repeat' split
    all_goals first | assumption | rfl | omega
  · unfold hset; repeat' split
    all_goals first | assumption | rfl | omega
  · unfold hset; repeat' split
    all_goals first | assumption | rfl | omega
  · unfold hset; repeat' split
    all_goals first | assumption | rfl | omega
  · obtain ⟨b1, b2, b3, b4, b5, b6⟩ := hb k' hk'
    unfold hset
    refine ⟨?_, ?_, ?_, ?_, ?_, ?_⟩
    all_goals repeat' split
    all_goals first | assumption | rfl | omega
  · obtain ⟨c1, c2, c3, c4⟩ := hc l' hl'
    unfold hset
    refine ⟨?_, ?_, ?_, ?_⟩
    all_goals repeat' split
    all_goals first | assumption | rfl | omega | (intro e9; first | rfl | exact absurd e9 h9 | exact c4 e9 | omega) | skip
  · have d1 := hd j' hj'
    unfold hset
    repeat' split
    all_goals first | assumption | rfl | omega
theorem rep_a2 {M N ja jb : Nat} {g w : Hv} (hR : RepM M N g w ja jb) (hJ : JJ ja jb) (hM5 : M ≤ 5) (hN6 : N ≤ 6) {k : Nat} {v : Int32} (hk : k < M) : RepM M N (hset g 3 k v) (hset w ja (12 + k) v) ja jb := by
  unfold JJ at hJ
  obtain ⟨⟨a0, a1, a2, a3, a4⟩, hb, hc, hd⟩ := hR
  refine ⟨⟨?_, ?_, ?_, ?_, ?_⟩, fun k' hk' => ?_, fun l' hl' => ?_, fun j' hj' => ?_⟩
  · unfold hset; repeat' split
    all_goals first | assumption | rfl | omega
  · unfold hset; repeat' split
    all_goals first | assumption | rfl | omega
  · unfold hset; repeat' split
    all_goals first | assumption | rfl | omega
  · unfold hset; repeat' split
    all_goals first | assumption | rfl | omega
  · unfold hset; repeat' split
    all_goals first | assumption | rfl | omega
  · obtain ⟨b1, b2, b3, b4, b5, b6⟩ := hb k' hk'
    unfold hset
    refine ⟨?_, ?_, ?_, ?_, ?_, ?_⟩
    all_goals repeat' split
    all_goals first | assumption | rfl | omega
  · obtain ⟨c1, c2, c3, c4⟩ := hc l' hl'
    unfold hset
    refine ⟨?_, ?_, ?_, ?_⟩
    all_goals repeat' split
    all_goals first | assumption | rfl | omega | (intro e9; first | rfl | exact absurd e9 h9 | exact c4 e9 | omega) | skip
  · have d1 := hd j' hj'
    unfold hset
    repeat' split
    all_goals first | assumption | rfl | omega
theorem rep_7 {M N ja jb : Nat} {g w : Hv} (hR : RepM M N g w ja jb) (hJ : JJ ja jb) (hM5 : M ≤ 5) (hN6 : N ≤ 6) {l : Nat} {v : Int32} (hl : l < N) : RepM M N (hset g 7 l v) (hset w jb (18 + l) v) ja jb := by
  unfold JJ at hJ
  obtain ⟨⟨a0, a1, a2, a3, a4⟩, hb, hc, hd⟩ := hR
  refine ⟨⟨?_, ?_, ?_, ?_, ?_⟩, fun k' hk' => ?_, fun l' hl' => ?_, fun j' hj' => ?_⟩
  · unfold hset; repeat' split
    all_goals first | assumption | rfl | omega
  · unfold hset; repeat' split
    all_goals first | assumption | rfl | omega
  · unfold hset; repeat' split
    all_goals first | assumption | rfl | omega
  · unfold hset; repeat' split
    all_goals first | assumption | rfl | omega
  · unfold hset; repeat' split
    all_goals first | assumption | rfl | omega
  · obtain ⟨b1, b2, b3, b4, b5, b6⟩ := hb k' hk'
    unfold hset
    refine ⟨?_, ?_, ?_, ?_, ?_, ?_⟩
    all_goals repeat' split
    all_goals first | assumption | rfl | omega
  · obtain ⟨c1, c2, c3, c4⟩ := hc l' hl'
    unfold hset
    refine ⟨?_, ?_, ?_, ?_⟩
    all_goals repeat' split
    all_goals first | assumption | rfl | omega | (intro e9; first | rfl | exact absurd e9 h9 | exact c4 e9 | omega) | skip
  · have d1 := hd j' hj'
    unfold hset
    repeat' split
    all_goals first | assumption | rfl | omega
theorem HI.alt0 {M N k v : Nat} {g : Hv} (h : HI M N g) (h1 : 1 ≤ v) (h2 : v ≤ 5) : HI M N (hset g 1 k (nI v)) := by
  refine ⟨h.1, h.2.1, h.2.2.1, h.2.2.2.1, fun q hq => ?_, h.2.2.2.2.2.1, h.2.2.2.2.2.2.1, h.2.2.2.2.2.2.2⟩
  obtain ⟨a, b, c, d, a1, a2, a3, b1, b2, b3, c1, c2, d1, d2⟩ := h.mach q hq
  by_cases e : q = k
  · subst e
    exact ⟨v, b, c, d, h1, h2, hs_at, b1, b2, (hs_j (by decide)).trans b3, c1, (hs_j (by decide)).trans c2, d1, (hs_j (by decide)).trans d2⟩
  · exact ⟨a, b, c, d, a1, a2, (hs_b e).trans a3, b1, b2, (hs_b e).trans b3, c1, (hs_b e).trans c2, d1, (hs_b e).trans d2⟩
theorem m_alter0 {o : Nat} {h g : Hv} (ho : isHall o) {m : Int32} {k : Nat} (em : m = nI k) (hk : k < 5) {v : Int32} : MtF M_X2_alter 0 [.ref o, .int m, .int 0, .int v] (pu h o g) none (pu h o (hset g 1 k v)) := by
  have q := m_alter (h := h) (g := g) ho em hk (w := 0) (v := v)
  rw [if_pos rfl] at q
  exact q
theorem HI.alt1 {M N k v : Nat} {g : Hv} (h : HI M N g) (h1 : 1 ≤ v) (h2 : v ≤ 9) : HI M N (hset g 2 k (nI v)) := by
  refine ⟨h.1, h.2.1, h.2.2.1, h.2.2.2.1, fun q hq => ?_, h.2.2.2.2.2.1, h.2.2.2.2.2.2.1, h.2.2.2.2.2.2.2⟩
  obtain ⟨a, b, c, d, a1, a2, a3, b1, b2, b3, c1, c2, d1, d2⟩ := h.mach q hq
  by_cases e : q = k
  · subst e
    exact ⟨a, v, c, d, a1, a2, (hs_j (by decide)).trans a3, h1, h2, hs_at, c1, (hs_j (by decide)).trans c2, d1, (hs_j (by decide)).trans d2⟩
  · exact ⟨a, b, c, d, a1, a2, (hs_b e).trans a3, b1, b2, (hs_b e).trans b3, c1, (hs_b e).trans c2, d1, (hs_b e).trans d2⟩
theorem m_alter1 {o : Nat} {h g : Hv} (ho : isHall o) {m : Int32} {k : Nat} (em : m = nI k) (hk : k < 5) {v : Int32} : MtF M_X2_alter 0 [.ref o, .int m, .int 1, .int v] (pu h o g) none (pu h o (hset g 2 k v)) := by
  have q := m_alter (h := h) (g := g) ho em hk (w := 1) (v := v)
  rw [if_neg (by decide), if_pos rfl] at q
  exact q
theorem HI.alt2 {M N k v : Nat} {g : Hv} (h : HI M N g) (h1 : 0 ≤ v) (h2 : v ≤ 5) : HI M N (hset g 3 k (nI v)) := by
  refine ⟨h.1, h.2.1, h.2.2.1, h.2.2.2.1, fun q hq => ?_, h.2.2.2.2.2.1, h.2.2.2.2.2.2.1, h.2.2.2.2.2.2.2⟩
  obtain ⟨a, b, c, d, a1, a2, a3, b1, b2, b3, c1, c2, d1, d2⟩ := h.mach q hq
  by_cases e : q = k
  · subst e
    exact ⟨a, b, v, d, a1, a2, (hs_j (by decide)).trans a3, b1, b2, (hs_j (by decide)).trans b3, h2, hs_at, d1, (hs_j (by decide)).trans d2⟩
  · exact ⟨a, b, c, d, a1, a2, (hs_b e).trans a3, b1, b2, (hs_b e).trans b3, c1, (hs_b e).trans c2, d1, (hs_b e).trans d2⟩
theorem m_alter2 {o : Nat} {h g : Hv} (ho : isHall o) {m : Int32} {k : Nat} (em : m = nI k) (hk : k < 5) {v : Int32} : MtF M_X2_alter 0 [.ref o, .int m, .int 2, .int v] (pu h o g) none (pu h o (hset g 3 k v)) := by
  have q := m_alter (h := h) (g := g) ho em hk (w := 2) (v := v)
  rw [if_neg (by decide), if_neg (by decide)] at q
  exact q
theorem HI.size {M N l v : Nat} {g : Hv} (h : HI M N g) (h1 : 1 ≤ v) (h2 : v ≤ 9) : HI M N (hset g 7 l (nI v)) := by
  refine ⟨h.1, h.2.1, h.2.2.1, h.2.2.2.1, h.2.2.2.2.1, fun q hq => ?_, h.2.2.2.2.2.2.1, h.2.2.2.2.2.2.2⟩
  obtain ⟨a, b, a1, a2, a3, b1, b2⟩ := h.load q hq
  by_cases e : q = l
  · subst e
    exact ⟨v, b, h1, h2, hs_at, b1, (hs_j (by decide)).trans b2⟩
  · exact ⟨a, b, a1, a2, (hs_b e).trans a3, b1, b2⟩
theorem lp_who6_0 {h w : Hv} {M N r q i n : Nat} {row : Nat → Int32} (hI : HI M N (hv h 15)) (hr : r < M) (hq : q < 8) (hi : i + n ≤ 40) (hn : n ≤ 12) (hrow : ∀ t, t < n → h (5 + q) (i + t) = row t) : ∀ (m v : Nat), v + m = 6 → 1 ≤ v → ∀ (acc : Int32) (g' : Hv) (y : Option Value), GdH M_X6_who 5 104 [some (.ref 0), some (.int (nI r)), some (.int 0), some (.int (nI q)), some (.int (nI i)), some (.int (nI n)), some (.int 0), some (.int 1), some (.int 5), some (.int acc), some (.int (nI v)), y] [] (pu (mu h w) 27 g') (fun v' h' => v' = some (.int (woS (fun v => ftS M N row n 0 (hset (hv h 15) 1 r (nI v))) m v acc)) ∧ ∃ g', h' = hset (pu (mu h w) 27 g') 0 9 0) := by
  have hM5 := hI.hM5
  intro m
  induction m with
  | zero =>
    intro v hv1 hv2 acc g' y
    refine g_iload d_X6_who_104 rfl ?_
    refine g_iload d_X6_who_106 rfl ?_
    refine g_icmp_gt d_X6_who_108 (fun c108 => ?_) (fun c108 => absurd ((nI_ltI (a := 5) (b := v) (by decide) (by omega)).mpr (by omega)) c108)
    refine g_aload_n d_X6_who_155 rfl ?_
    refine g_iload d_X6_who_156 rfl ?_
    refine h_V1i d_X6_who_158 cl_6_75 m6_foundNothing sp_L (by decide) rfl (Nat.le_of_ble_eq_true rfl) (by decide) ?_
    refine h_iret d_X6_who_161 rfl ?_
    exact ⟨rfl, _, rfl⟩
  | succ m ih =>
    intro v hv1 hv2 acc g' y
    have hIv := hI.alt0 (k := r) (v := v) (by omega) (by omega)
    refine g_iload d_X6_who_104 rfl ?_
    refine g_iload d_X6_who_106 rfl ?_
    refine g_icmp_gt d_X6_who_108 (fun c108 => absurd c108 (fun z => by have := (nI_ltI (a := 5) (b := v) (by decide) (by omega)).mp z; omega)) (fun c108 => ?_)
    refine g_aload_n d_X6_who_111 rfl ?_
    refine h_V0a d_X6_who_112 cl_6_242 p_asNow27 sp_L (by decide) rfl (Nat.le_of_ble_eq_true rfl) (by decide) ?_
    refine w_astore (L' := [_, _, _, _, _, _, _, _, _, _, _, _]) d_X6_who_115 rfl rfl rfl ?_
    refine g_aload d_X6_who_117 rfl ?_
    refine g_iload_n d_X6_who_119 rfl ?_
    refine g_iload_n d_X6_who_120 rfl ?_
    refine g_iload d_X6_who_121 rfl ?_
    refine h_V3v d_X6_who_123 cl_6_306 (m_alter0 hall_27 rfl (by omega)) (sp_hall hall_27) (by decide) rfl (Nat.le_of_ble_eq_true rfl) (by decide) ?_
    refine g_aload_n d_X6_who_126 rfl ?_
    refine g_aload d_X6_who_127 rfl ?_
    refine g_iload_n d_X6_who_129 rfl ?_
    refine g_iload d_X6_who_130 rfl ?_
    refine g_iload d_X6_who_132 rfl ?_
    refine h_V4P d_X6_who_134 cl_6_309 (m6_fits hIv hq hi (fun t ht => (mu_low (by omega)).trans (hrow t ht))) sp_L (by decide) rfl (Nat.le_of_ble_eq_true rfl) (by decide) ?_
    intro v' h' hp
    obtain ⟨rfl, g2, rfl⟩ := hp
    refine g_if_eq d_X6_who_137 (fun c137 => ?_) (fun c137 => ?_)
    · refine w_iinc (L' := [_, _, _, _, _, _, _, _, _, _, _, _]) d_X6_who_149 ik_1 rfl rfl rfl rfl ?_
      refine g_goto d_X6_who_152 ?_
      rw [nI_1]
      refine h_weaken (ih (v + 1) (by omega) (by omega) _ _ _) ?_
      intro v' h' hp
      exact ⟨by rw [hp.1, woS]; first | rw [if_pos c137] | rw [if_neg c137], hp.2⟩
    · refine g_iload d_X6_who_140 rfl ?_
      refine g_iconst d_X6_who_142 ik_1 ?_
      refine g_iload d_X6_who_143 rfl ?_
      refine g_ishl d_X6_who_145 ?_
      refine g_ior d_X6_who_146 ?_
      refine w_istore (L' := [_, _, _, _, _, _, _, _, _, _, _, _]) d_X6_who_147 rfl rfl rfl ?_
      refine w_iinc (L' := [_, _, _, _, _, _, _, _, _, _, _, _]) d_X6_who_149 ik_1 rfl rfl rfl rfl ?_
      refine g_goto d_X6_who_152 ?_
      rw [nI_1]
      refine h_weaken (ih (v + 1) (by omega) (by omega) _ _ _) ?_
      intro v' h' hp
      exact ⟨by rw [hp.1, woS]; first | rw [if_pos c137] | rw [if_neg c137], hp.2⟩
theorem lp_who7_0 {h w g : Hv} {M N r q i n : Nat} {row : Nat → Int32} (hI : HI M N g) (wN : w 7 1 = nI N) (hR : Rep0 M N g w 7 8) (hrk : ∀ j, j < N → g 11 j = nI j) (hr : r < M) (hq : q < 8) (hi : i + n ≤ 40) (hn : n ≤ 12) (hrow : ∀ t, t < n → w 1 (40 * q + i + t) = row t) : ∀ (m v : Nat), v + m = 10 → ∀ (acc : Int32) (w' : Hv) (y : Option Value), FrS w w' → GdH M_X7_who 4 68 [some (.ref 360), some (.int (nI r)), some (.int 0), some (.int (nI q)), some (.int (nI i)), some (.int (nI n)), some (.int 0), some (.int acc), some (.int (nI v)), y] [] (mu h w') (fun v' h' => v' = some (.int (woS (fun v => if 1 ≤ v ∧ v ≤ 5 then ftS M N row n 0 (hset g 1 r (nI v)) else 0) m v acc)) ∧ ∃ w2, h' = mu h (hset w2 0 4 0) ∧ FrS w w2) := by
  have hM5 := hI.hM5
  intro m
  induction m with
  | zero =>
    intro v hv1 acc w' y hf
    refine g_iload d_X7_who_68 rfl ?_
    refine g_bipush d_X7_who_70 bk_10 ?_
    refine g_icmp_ge d_X7_who_72 (fun c72 => ?_) (fun c72 => absurd (nI_le (a := 10) (b := v) (by omega) (by omega)) c72)
    refine g_aload_n d_X7_who_194 rfl ?_
    refine g_iload d_X7_who_195 rfl ?_
    refine h_V1i d_X7_who_197 cl_7_83 m7_well sp_M (by decide) rfl (Nat.le_of_ble_eq_true rfl) (by decide) ?_
    refine h_iret d_X7_who_200 rfl ?_
    exact ⟨rfl, _, rfl, hf⟩
  | succ m ih =>
    intro v hv1 acc w' y hf
    have ev : (nI v).toInt = v := nI_toInt (by omega)
    refine g_iload d_X7_who_68 rfl ?_
    refine g_bipush d_X7_who_70 bk_10 ?_
    refine g_icmp_ge d_X7_who_72 (fun c72 => absurd c72 (nI_ge (a := v) (b := 10) (by omega) (by omega))) (fun c72 => ?_)
    refine g_iload_n d_X7_who_75 rfl ?_
    refine g_if_ne d_X7_who_76 (fun c76 => absurd c76 (by decide)) (fun c76 => ?_)
    refine g_iload d_X7_who_79 rfl ?_
    refine g_iconst d_X7_who_81 ik_1 ?_
    refine g_iconst d_X7_who_82 ik_5 ?_
    refine h_S3i d_X7_who_83 cl_7_70 m7_in (Nat.le_of_ble_eq_true rfl) (by decide) ?_
    refine g_goto d_X7_who_86 ?_
    refine w_istore (L' := [_, _, _, _, _, _, _, _, _, _]) d_X7_who_119 rfl rfl rfl ?_
    refine g_iload d_X7_who_121 rfl ?_
    refine g_if_eq d_X7_who_123 (fun c123 => ?_) (fun c123 => ?_)
    · refine w_iinc (L' := [_, _, _, _, _, _, _, _, _, _]) d_X7_who_188 ik_1 rfl rfl rfl rfl ?_
      refine g_goto d_X7_who_191 ?_
      have hv9 : ¬ (1 ≤ v ∧ v ≤ 5) := by have z := b2i_eq0.mp c123; simp only [Int32.lt_iff_toInt_lt, ev, t_1, t_5] at z; omega
      rw [nI_1]
      refine h_weaken (ih (v + 1) (by omega) _ w' _ hf) ?_
      intro v' h' hp
      refine ⟨?_, hp.2⟩
      rw [hp.1, woS, if_neg hv9, if_pos rfl]
    · have hv9 : 1 ≤ v ∧ v ≤ 5 := by have z := b2i_ne0.mp c123; simp only [Int32.lt_iff_toInt_lt, ev, t_1, t_5] at z; omega
      have hIv := hI.alt0 (k := r) (v := v) (by omega) (by omega)
      have hn0 := rep_now (hf.r0 hR hI.hM5 hI.hN6) hI.hM5 hI.hN6 hrk
      have hn1 := rep_a0 (v := nI v) hn0 (Or.inr ⟨rfl, rfl⟩) hI.hM5 hI.hN6 hr
      refine g_aload_n d_X7_who_126 rfl ?_
      refine h_V0v d_X7_who_127 cl_7_178 m7_asNow sp_M (by decide) rfl (Nat.le_of_ble_eq_true rfl) (by decide) ?_
      refine g_aload_n d_X7_who_130 rfl ?_
      refine h_V0v d_X7_who_131 cl_7_181 m7_ranksByNumber sp_M (by decide) rfl (Nat.le_of_ble_eq_true rfl) (by decide) ?_
      refine g_aload_n d_X7_who_134 rfl ?_
      refine h_getR d_X7_who_135 fl_7_34 sp_M rfl ?_
      refine g_iload_n d_X7_who_138 rfl ?_
      refine g_if_ne d_X7_who_139 (fun c139 => absurd c139 (by decide)) (fun c139 => ?_)
      refine g_iconst d_X7_who_142 ik_2 ?_
      refine g_goto d_X7_who_143 ?_
      refine g_iload_n d_X7_who_158 rfl ?_
      refine g_iadd d_X7_who_159 ?_
      refine g_iload d_X7_who_160 rfl ?_
      refine mm_astE (k := (2 + r)) d_X7_who_162 (j := 9) sp_m_e rfl (by decide) (nAdd rfl rfl) (by omega) (by decide) ?_
      refine g_iload d_X7_who_163 rfl ?_
      refine g_aload_n d_X7_who_165 rfl ?_
      refine g_iload_n d_X7_who_166 rfl ?_
      refine g_iload d_X7_who_167 rfl ?_
      refine g_iload d_X7_who_169 rfl ?_
      refine h_V3P d_X7_who_171 cl_7_244 (m7_goesSo wN hIv hn1 (hf.tr ((nowR_fs (w := w')).set (j := 9) (by omega))) hq hi hrow) sp_M (by decide) rfl (Nat.le_of_ble_eq_true rfl) (by decide) ?_
      intro v' h' hp
      obtain ⟨rfl, w2, rfl, hf3⟩ := hp
      refine g_if_eq d_X7_who_174 (fun c174 => ?_) (fun c174 => ?_)
      · refine g_iconst d_X7_who_184 ik_0 ?_
        refine g_ior d_X7_who_185 ?_
        refine w_istore (L' := [_, _, _, _, _, _, _, _, _, _]) d_X7_who_186 rfl rfl rfl ?_
        refine w_iinc (L' := [_, _, _, _, _, _, _, _, _, _]) d_X7_who_188 ik_1 rfl rfl rfl rfl ?_
        refine g_goto d_X7_who_191 ?_
        rw [nI_1]
        refine h_weaken (ih (v + 1) (by omega) _ _ _ hf3) ?_
        intro v' h' hp
        refine ⟨?_, hp.2⟩
        rw [hp.1, woS, if_pos hv9]
        first | rw [if_pos c174, Int32.or_zero] | rw [if_neg c174]
      · refine g_iconst d_X7_who_177 ik_1 ?_
        refine g_iload d_X7_who_178 rfl ?_
        refine g_ishl d_X7_who_180 ?_
        refine g_goto d_X7_who_181 ?_
        refine g_ior d_X7_who_185 ?_
        refine w_istore (L' := [_, _, _, _, _, _, _, _, _, _]) d_X7_who_186 rfl rfl rfl ?_
        refine w_iinc (L' := [_, _, _, _, _, _, _, _, _, _]) d_X7_who_188 ik_1 rfl rfl rfl rfl ?_
        refine g_goto d_X7_who_191 ?_
        rw [nI_1]
        refine h_weaken (ih (v + 1) (by omega) _ _ _ hf3) ?_
        intro v' h' hp
        refine ⟨?_, hp.2⟩
        rw [hp.1, woS, if_pos hv9]
        first | rw [if_pos c174, Int32.or_zero] | rw [if_neg c174]
theorem wo_eq0 (p : Nat → Int32) : woS p 5 1 0 = woS (fun v => if 1 ≤ v ∧ v ≤ 5 then p v else 0) 10 0 0 := by
  simp [woS]
theorem lp_who6_1 {h w : Hv} {M N r q i n : Nat} {row : Nat → Int32} (hI : HI M N (hv h 15)) (hr : r < M) (hq : q < 8) (hi : i + n ≤ 40) (hn : n ≤ 12) (hrow : ∀ t, t < n → h (5 + q) (i + t) = row t) : ∀ (m v : Nat), v + m = 10 → 1 ≤ v → ∀ (acc : Int32) (g' : Hv) (y : Option Value), GdH M_X6_who 5 104 [some (.ref 0), some (.int (nI r)), some (.int 1), some (.int (nI q)), some (.int (nI i)), some (.int (nI n)), some (.int 0), some (.int 1), some (.int 9), some (.int acc), some (.int (nI v)), y] [] (pu (mu h w) 27 g') (fun v' h' => v' = some (.int (woS (fun v => ftS M N row n 0 (hset (hv h 15) 2 r (nI v))) m v acc)) ∧ ∃ g', h' = hset (pu (mu h w) 27 g') 0 9 0) := by
  have hM5 := hI.hM5
  intro m
  induction m with
  | zero =>
    intro v hv1 hv2 acc g' y
    refine g_iload d_X6_who_104 rfl ?_
    refine g_iload d_X6_who_106 rfl ?_
    refine g_icmp_gt d_X6_who_108 (fun c108 => ?_) (fun c108 => absurd ((nI_ltI (a := 9) (b := v) (by decide) (by omega)).mpr (by omega)) c108)
    refine g_aload_n d_X6_who_155 rfl ?_
    refine g_iload d_X6_who_156 rfl ?_
    refine h_V1i d_X6_who_158 cl_6_75 m6_foundNothing sp_L (by decide) rfl (Nat.le_of_ble_eq_true rfl) (by decide) ?_
    refine h_iret d_X6_who_161 rfl ?_
    exact ⟨rfl, _, rfl⟩
  | succ m ih =>
    intro v hv1 hv2 acc g' y
    have hIv := hI.alt1 (k := r) (v := v) (by omega) (by omega)
    refine g_iload d_X6_who_104 rfl ?_
    refine g_iload d_X6_who_106 rfl ?_
    refine g_icmp_gt d_X6_who_108 (fun c108 => absurd c108 (fun z => by have := (nI_ltI (a := 9) (b := v) (by decide) (by omega)).mp z; omega)) (fun c108 => ?_)
    refine g_aload_n d_X6_who_111 rfl ?_
    refine h_V0a d_X6_who_112 cl_6_242 p_asNow27 sp_L (by decide) rfl (Nat.le_of_ble_eq_true rfl) (by decide) ?_
    refine w_astore (L' := [_, _, _, _, _, _, _, _, _, _, _, _]) d_X6_who_115 rfl rfl rfl ?_
    refine g_aload d_X6_who_117 rfl ?_
    refine g_iload_n d_X6_who_119 rfl ?_
    refine g_iload_n d_X6_who_120 rfl ?_
    refine g_iload d_X6_who_121 rfl ?_
    refine h_V3v d_X6_who_123 cl_6_306 (m_alter1 hall_27 rfl (by omega)) (sp_hall hall_27) (by decide) rfl (Nat.le_of_ble_eq_true rfl) (by decide) ?_
    refine g_aload_n d_X6_who_126 rfl ?_
    refine g_aload d_X6_who_127 rfl ?_
    refine g_iload_n d_X6_who_129 rfl ?_
    refine g_iload d_X6_who_130 rfl ?_
    refine g_iload d_X6_who_132 rfl ?_
    refine h_V4P d_X6_who_134 cl_6_309 (m6_fits hIv hq hi (fun t ht => (mu_low (by omega)).trans (hrow t ht))) sp_L (by decide) rfl (Nat.le_of_ble_eq_true rfl) (by decide) ?_
    intro v' h' hp
    obtain ⟨rfl, g2, rfl⟩ := hp
    refine g_if_eq d_X6_who_137 (fun c137 => ?_) (fun c137 => ?_)
    · refine w_iinc (L' := [_, _, _, _, _, _, _, _, _, _, _, _]) d_X6_who_149 ik_1 rfl rfl rfl rfl ?_
      refine g_goto d_X6_who_152 ?_
      rw [nI_1]
      refine h_weaken (ih (v + 1) (by omega) (by omega) _ _ _) ?_
      intro v' h' hp
      exact ⟨by rw [hp.1, woS]; first | rw [if_pos c137] | rw [if_neg c137], hp.2⟩
    · refine g_iload d_X6_who_140 rfl ?_
      refine g_iconst d_X6_who_142 ik_1 ?_
      refine g_iload d_X6_who_143 rfl ?_
      refine g_ishl d_X6_who_145 ?_
      refine g_ior d_X6_who_146 ?_
      refine w_istore (L' := [_, _, _, _, _, _, _, _, _, _, _, _]) d_X6_who_147 rfl rfl rfl ?_
      refine w_iinc (L' := [_, _, _, _, _, _, _, _, _, _, _, _]) d_X6_who_149 ik_1 rfl rfl rfl rfl ?_
      refine g_goto d_X6_who_152 ?_
      rw [nI_1]
      refine h_weaken (ih (v + 1) (by omega) (by omega) _ _ _) ?_
      intro v' h' hp
      exact ⟨by rw [hp.1, woS]; first | rw [if_pos c137] | rw [if_neg c137], hp.2⟩
theorem lp_who7_1 {h w g : Hv} {M N r q i n : Nat} {row : Nat → Int32} (hI : HI M N g) (wN : w 7 1 = nI N) (hR : Rep0 M N g w 7 8) (hrk : ∀ j, j < N → g 11 j = nI j) (hr : r < M) (hq : q < 8) (hi : i + n ≤ 40) (hn : n ≤ 12) (hrow : ∀ t, t < n → w 1 (40 * q + i + t) = row t) : ∀ (m v : Nat), v + m = 10 → ∀ (acc : Int32) (w' : Hv) (y : Option Value), FrS w w' → GdH M_X7_who 4 68 [some (.ref 360), some (.int (nI r)), some (.int 1), some (.int (nI q)), some (.int (nI i)), some (.int (nI n)), some (.int 0), some (.int acc), some (.int (nI v)), y] [] (mu h w') (fun v' h' => v' = some (.int (woS (fun v => if 1 ≤ v then ftS M N row n 0 (hset g 2 r (nI v)) else 0) m v acc)) ∧ ∃ w2, h' = mu h (hset w2 0 4 0) ∧ FrS w w2) := by
  have hM5 := hI.hM5
  intro m
  induction m with
  | zero =>
    intro v hv1 acc w' y hf
    refine g_iload d_X7_who_68 rfl ?_
    refine g_bipush d_X7_who_70 bk_10 ?_
    refine g_icmp_ge d_X7_who_72 (fun c72 => ?_) (fun c72 => absurd (nI_le (a := 10) (b := v) (by omega) (by omega)) c72)
    refine g_aload_n d_X7_who_194 rfl ?_
    refine g_iload d_X7_who_195 rfl ?_
    refine h_V1i d_X7_who_197 cl_7_83 m7_well sp_M (by decide) rfl (Nat.le_of_ble_eq_true rfl) (by decide) ?_
    refine h_iret d_X7_who_200 rfl ?_
    exact ⟨rfl, _, rfl, hf⟩
  | succ m ih =>
    intro v hv1 acc w' y hf
    have ev : (nI v).toInt = v := nI_toInt (by omega)
    refine g_iload d_X7_who_68 rfl ?_
    refine g_bipush d_X7_who_70 bk_10 ?_
    refine g_icmp_ge d_X7_who_72 (fun c72 => absurd c72 (nI_ge (a := v) (b := 10) (by omega) (by omega))) (fun c72 => ?_)
    refine g_iload_n d_X7_who_75 rfl ?_
    refine g_if_ne d_X7_who_76 (fun c76 => ?_) (fun c76 => absurd c76 (by decide))
    refine g_iload_n d_X7_who_89 rfl ?_
    refine g_iconst d_X7_who_90 ik_1 ?_
    refine g_icmp_ne d_X7_who_91 (fun c91 => absurd c91 (by decide)) (fun c91 => ?_)
    refine g_iload d_X7_who_94 rfl ?_
    refine g_if_le d_X7_who_96 (fun c96 => ?_) (fun c96 => ?_)
    · refine g_iconst d_X7_who_103 ik_0 ?_
      refine g_goto d_X7_who_104 ?_
      refine w_istore (L' := [_, _, _, _, _, _, _, _, _, _]) d_X7_who_119 rfl rfl rfl ?_
      refine g_iload d_X7_who_121 rfl ?_
      refine g_if_eq d_X7_who_123 (fun c123 => ?_) (fun c123 => absurd c123 (by decide))
      refine w_iinc (L' := [_, _, _, _, _, _, _, _, _, _]) d_X7_who_188 ik_1 rfl rfl rfl rfl ?_
      refine g_goto d_X7_who_191 ?_
      have hv9 : ¬ 1 ≤ v := fun z => absurd c96 (nI_ge (a := 0) (b := v) z (by omega))
      rw [nI_1]
      refine h_weaken (ih (v + 1) (by omega) _ w' _ hf) ?_
      intro v' h' hp
      refine ⟨?_, hp.2⟩
      rw [hp.1, woS, if_neg hv9, if_pos rfl]
    · refine g_iconst d_X7_who_99 ik_1 ?_
      refine g_goto d_X7_who_100 ?_
      refine w_istore (L' := [_, _, _, _, _, _, _, _, _, _]) d_X7_who_119 rfl rfl rfl ?_
      refine g_iload d_X7_who_121 rfl ?_
      refine g_if_eq d_X7_who_123 (fun c123 => absurd c123 (by decide)) (fun c123 => ?_)
      have hv9 : 1 ≤ v := by rcases Nat.eq_zero_or_pos v with z | z; exact absurd (by rw [z]; decide) c96; exact z
      have hIv := hI.alt1 (k := r) (v := v) (by omega) (by omega)
      have hn0 := rep_now (hf.r0 hR hI.hM5 hI.hN6) hI.hM5 hI.hN6 hrk
      have hn1 := rep_a1 (v := nI v) hn0 (Or.inr ⟨rfl, rfl⟩) hI.hM5 hI.hN6 hr
      refine g_aload_n d_X7_who_126 rfl ?_
      refine h_V0v d_X7_who_127 cl_7_178 m7_asNow sp_M (by decide) rfl (Nat.le_of_ble_eq_true rfl) (by decide) ?_
      refine g_aload_n d_X7_who_130 rfl ?_
      refine h_V0v d_X7_who_131 cl_7_181 m7_ranksByNumber sp_M (by decide) rfl (Nat.le_of_ble_eq_true rfl) (by decide) ?_
      refine g_aload_n d_X7_who_134 rfl ?_
      refine h_getR d_X7_who_135 fl_7_34 sp_M rfl ?_
      refine g_iload_n d_X7_who_138 rfl ?_
      refine g_if_ne d_X7_who_139 (fun c139 => ?_) (fun c139 => absurd c139 (by decide))
      refine g_iload_n d_X7_who_146 rfl ?_
      refine g_iconst d_X7_who_147 ik_1 ?_
      refine g_icmp_ne d_X7_who_148 (fun c148 => absurd c148 (by decide)) (fun c148 => ?_)
      refine g_bipush d_X7_who_151 bk_7 ?_
      refine g_goto d_X7_who_153 ?_
      refine g_iload_n d_X7_who_158 rfl ?_
      refine g_iadd d_X7_who_159 ?_
      refine g_iload d_X7_who_160 rfl ?_
      refine mm_astE (k := (7 + r)) d_X7_who_162 (j := 9) sp_m_e rfl (by decide) (nAdd rfl rfl) (by omega) (by decide) ?_
      refine g_iload d_X7_who_163 rfl ?_
      refine g_aload_n d_X7_who_165 rfl ?_
      refine g_iload_n d_X7_who_166 rfl ?_
      refine g_iload d_X7_who_167 rfl ?_
      refine g_iload d_X7_who_169 rfl ?_
      refine h_V3P d_X7_who_171 cl_7_244 (m7_goesSo wN hIv hn1 (hf.tr ((nowR_fs (w := w')).set (j := 9) (by omega))) hq hi hrow) sp_M (by decide) rfl (Nat.le_of_ble_eq_true rfl) (by decide) ?_
      intro v' h' hp
      obtain ⟨rfl, w2, rfl, hf3⟩ := hp
      refine g_if_eq d_X7_who_174 (fun c174 => ?_) (fun c174 => ?_)
      · refine g_iconst d_X7_who_184 ik_0 ?_
        refine g_ior d_X7_who_185 ?_
        refine w_istore (L' := [_, _, _, _, _, _, _, _, _, _]) d_X7_who_186 rfl rfl rfl ?_
        refine w_iinc (L' := [_, _, _, _, _, _, _, _, _, _]) d_X7_who_188 ik_1 rfl rfl rfl rfl ?_
        refine g_goto d_X7_who_191 ?_
        rw [nI_1]
        refine h_weaken (ih (v + 1) (by omega) _ _ _ hf3) ?_
        intro v' h' hp
        refine ⟨?_, hp.2⟩
        rw [hp.1, woS, if_pos hv9]
        first | rw [if_pos c174, Int32.or_zero] | rw [if_neg c174]
      · refine g_iconst d_X7_who_177 ik_1 ?_
        refine g_iload d_X7_who_178 rfl ?_
        refine g_ishl d_X7_who_180 ?_
        refine g_goto d_X7_who_181 ?_
        refine g_ior d_X7_who_185 ?_
        refine w_istore (L' := [_, _, _, _, _, _, _, _, _, _]) d_X7_who_186 rfl rfl rfl ?_
        refine w_iinc (L' := [_, _, _, _, _, _, _, _, _, _]) d_X7_who_188 ik_1 rfl rfl rfl rfl ?_
        refine g_goto d_X7_who_191 ?_
        rw [nI_1]
        refine h_weaken (ih (v + 1) (by omega) _ _ _ hf3) ?_
        intro v' h' hp
        refine ⟨?_, hp.2⟩
        rw [hp.1, woS, if_pos hv9]
        first | rw [if_pos c174, Int32.or_zero] | rw [if_neg c174]
theorem wo_eq1 (p : Nat → Int32) : woS p 9 1 0 = woS (fun v => if 1 ≤ v then p v else 0) 10 0 0 := by
  simp [woS]
theorem lp_who6_2 {h w : Hv} {M N r q i n : Nat} {row : Nat → Int32} (hI : HI M N (hv h 15)) (hr : r < M) (hq : q < 8) (hi : i + n ≤ 40) (hn : n ≤ 12) (hrow : ∀ t, t < n → h (5 + q) (i + t) = row t) : ∀ (m v : Nat), v + m = 6 → 0 ≤ v → ∀ (acc : Int32) (g' : Hv) (y : Option Value), GdH M_X6_who 5 104 [some (.ref 0), some (.int (nI r)), some (.int 2), some (.int (nI q)), some (.int (nI i)), some (.int (nI n)), some (.int 0), some (.int 0), some (.int 5), some (.int acc), some (.int (nI v)), y] [] (pu (mu h w) 27 g') (fun v' h' => v' = some (.int (woS (fun v => ftS M N row n 0 (hset (hv h 15) 3 r (nI v))) m v acc)) ∧ ∃ g', h' = hset (pu (mu h w) 27 g') 0 9 0) := by
  have hM5 := hI.hM5
  intro m
  induction m with
  | zero =>
    intro v hv1 hv2 acc g' y
    refine g_iload d_X6_who_104 rfl ?_
    refine g_iload d_X6_who_106 rfl ?_
    refine g_icmp_gt d_X6_who_108 (fun c108 => ?_) (fun c108 => absurd ((nI_ltI (a := 5) (b := v) (by decide) (by omega)).mpr (by omega)) c108)
    refine g_aload_n d_X6_who_155 rfl ?_
    refine g_iload d_X6_who_156 rfl ?_
    refine h_V1i d_X6_who_158 cl_6_75 m6_foundNothing sp_L (by decide) rfl (Nat.le_of_ble_eq_true rfl) (by decide) ?_
    refine h_iret d_X6_who_161 rfl ?_
    exact ⟨rfl, _, rfl⟩
  | succ m ih =>
    intro v hv1 hv2 acc g' y
    have hIv := hI.alt2 (k := r) (v := v) (by omega) (by omega)
    refine g_iload d_X6_who_104 rfl ?_
    refine g_iload d_X6_who_106 rfl ?_
    refine g_icmp_gt d_X6_who_108 (fun c108 => absurd c108 (fun z => by have := (nI_ltI (a := 5) (b := v) (by decide) (by omega)).mp z; omega)) (fun c108 => ?_)
    refine g_aload_n d_X6_who_111 rfl ?_
    refine h_V0a d_X6_who_112 cl_6_242 p_asNow27 sp_L (by decide) rfl (Nat.le_of_ble_eq_true rfl) (by decide) ?_
    refine w_astore (L' := [_, _, _, _, _, _, _, _, _, _, _, _]) d_X6_who_115 rfl rfl rfl ?_
    refine g_aload d_X6_who_117 rfl ?_
    refine g_iload_n d_X6_who_119 rfl ?_
    refine g_iload_n d_X6_who_120 rfl ?_
    refine g_iload d_X6_who_121 rfl ?_
    refine h_V3v d_X6_who_123 cl_6_306 (m_alter2 hall_27 rfl (by omega)) (sp_hall hall_27) (by decide) rfl (Nat.le_of_ble_eq_true rfl) (by decide) ?_
    refine g_aload_n d_X6_who_126 rfl ?_
    refine g_aload d_X6_who_127 rfl ?_
    refine g_iload_n d_X6_who_129 rfl ?_
    refine g_iload d_X6_who_130 rfl ?_
    refine g_iload d_X6_who_132 rfl ?_
    refine h_V4P d_X6_who_134 cl_6_309 (m6_fits hIv hq hi (fun t ht => (mu_low (by omega)).trans (hrow t ht))) sp_L (by decide) rfl (Nat.le_of_ble_eq_true rfl) (by decide) ?_
    intro v' h' hp
    obtain ⟨rfl, g2, rfl⟩ := hp
    refine g_if_eq d_X6_who_137 (fun c137 => ?_) (fun c137 => ?_)
    · refine w_iinc (L' := [_, _, _, _, _, _, _, _, _, _, _, _]) d_X6_who_149 ik_1 rfl rfl rfl rfl ?_
      refine g_goto d_X6_who_152 ?_
      rw [nI_1]
      refine h_weaken (ih (v + 1) (by omega) (by omega) _ _ _) ?_
      intro v' h' hp
      exact ⟨by rw [hp.1, woS]; first | rw [if_pos c137] | rw [if_neg c137], hp.2⟩
    · refine g_iload d_X6_who_140 rfl ?_
      refine g_iconst d_X6_who_142 ik_1 ?_
      refine g_iload d_X6_who_143 rfl ?_
      refine g_ishl d_X6_who_145 ?_
      refine g_ior d_X6_who_146 ?_
      refine w_istore (L' := [_, _, _, _, _, _, _, _, _, _, _, _]) d_X6_who_147 rfl rfl rfl ?_
      refine w_iinc (L' := [_, _, _, _, _, _, _, _, _, _, _, _]) d_X6_who_149 ik_1 rfl rfl rfl rfl ?_
      refine g_goto d_X6_who_152 ?_
      rw [nI_1]
      refine h_weaken (ih (v + 1) (by omega) (by omega) _ _ _) ?_
      intro v' h' hp
      exact ⟨by rw [hp.1, woS]; first | rw [if_pos c137] | rw [if_neg c137], hp.2⟩
theorem lp_who7_2 {h w g : Hv} {M N r q i n : Nat} {row : Nat → Int32} (hI : HI M N g) (wN : w 7 1 = nI N) (hR : Rep0 M N g w 7 8) (hrk : ∀ j, j < N → g 11 j = nI j) (hr : r < M) (hq : q < 8) (hi : i + n ≤ 40) (hn : n ≤ 12) (hrow : ∀ t, t < n → w 1 (40 * q + i + t) = row t) : ∀ (m v : Nat), v + m = 10 → ∀ (acc : Int32) (w' : Hv) (y : Option Value), FrS w w' → GdH M_X7_who 4 68 [some (.ref 360), some (.int (nI r)), some (.int 2), some (.int (nI q)), some (.int (nI i)), some (.int (nI n)), some (.int 0), some (.int acc), some (.int (nI v)), y] [] (mu h w') (fun v' h' => v' = some (.int (woS (fun v => if v < 6 then ftS M N row n 0 (hset g 3 r (nI v)) else 0) m v acc)) ∧ ∃ w2, h' = mu h (hset w2 0 4 0) ∧ FrS w w2) := by
  have hM5 := hI.hM5
  intro m
  induction m with
  | zero =>
    intro v hv1 acc w' y hf
    refine g_iload d_X7_who_68 rfl ?_
    refine g_bipush d_X7_who_70 bk_10 ?_
    refine g_icmp_ge d_X7_who_72 (fun c72 => ?_) (fun c72 => absurd (nI_le (a := 10) (b := v) (by omega) (by omega)) c72)
    refine g_aload_n d_X7_who_194 rfl ?_
    refine g_iload d_X7_who_195 rfl ?_
    refine h_V1i d_X7_who_197 cl_7_83 m7_well sp_M (by decide) rfl (Nat.le_of_ble_eq_true rfl) (by decide) ?_
    refine h_iret d_X7_who_200 rfl ?_
    exact ⟨rfl, _, rfl, hf⟩
  | succ m ih =>
    intro v hv1 acc w' y hf
    have ev : (nI v).toInt = v := nI_toInt (by omega)
    refine g_iload d_X7_who_68 rfl ?_
    refine g_bipush d_X7_who_70 bk_10 ?_
    refine g_icmp_ge d_X7_who_72 (fun c72 => absurd c72 (nI_ge (a := v) (b := 10) (by omega) (by omega))) (fun c72 => ?_)
    refine g_iload_n d_X7_who_75 rfl ?_
    refine g_if_ne d_X7_who_76 (fun c76 => ?_) (fun c76 => absurd c76 (by decide))
    refine g_iload_n d_X7_who_89 rfl ?_
    refine g_iconst d_X7_who_90 ik_1 ?_
    refine g_icmp_ne d_X7_who_91 (fun c91 => ?_) (fun c91 => absurd c91 (by decide))
    refine g_iload d_X7_who_107 rfl ?_
    refine g_bipush d_X7_who_109 bk_6 ?_
    refine g_icmp_ge d_X7_who_111 (fun c111 => ?_) (fun c111 => ?_)
    · refine g_iconst d_X7_who_118 ik_0 ?_
      refine w_istore (L' := [_, _, _, _, _, _, _, _, _, _]) d_X7_who_119 rfl rfl rfl ?_
      refine g_iload d_X7_who_121 rfl ?_
      refine g_if_eq d_X7_who_123 (fun c123 => ?_) (fun c123 => absurd c123 (by decide))
      refine w_iinc (L' := [_, _, _, _, _, _, _, _, _, _]) d_X7_who_188 ik_1 rfl rfl rfl rfl ?_
      refine g_goto d_X7_who_191 ?_
      have hv9 : ¬ v < 6 := fun z => absurd c111 (nI_ge (a := v) (b := 6) z (by omega))
      rw [nI_1]
      refine h_weaken (ih (v + 1) (by omega) _ w' _ hf) ?_
      intro v' h' hp
      refine ⟨?_, hp.2⟩
      rw [hp.1, woS, if_neg hv9, if_pos rfl]
    · refine g_iconst d_X7_who_114 ik_1 ?_
      refine g_goto d_X7_who_115 ?_
      refine w_istore (L' := [_, _, _, _, _, _, _, _, _, _]) d_X7_who_119 rfl rfl rfl ?_
      refine g_iload d_X7_who_121 rfl ?_
      refine g_if_eq d_X7_who_123 (fun c123 => absurd c123 (by decide)) (fun c123 => ?_)
      have hv9 : v < 6 := by rcases Nat.lt_or_ge v 6 with z | z; exact z; exact absurd (nI_le (a := 6) (b := v) z (by omega)) c111
      have hIv := hI.alt2 (k := r) (v := v) (by omega) (by omega)
      have hn0 := rep_now (hf.r0 hR hI.hM5 hI.hN6) hI.hM5 hI.hN6 hrk
      have hn1 := rep_a2 (v := nI v) hn0 (Or.inr ⟨rfl, rfl⟩) hI.hM5 hI.hN6 hr
      refine g_aload_n d_X7_who_126 rfl ?_
      refine h_V0v d_X7_who_127 cl_7_178 m7_asNow sp_M (by decide) rfl (Nat.le_of_ble_eq_true rfl) (by decide) ?_
      refine g_aload_n d_X7_who_130 rfl ?_
      refine h_V0v d_X7_who_131 cl_7_181 m7_ranksByNumber sp_M (by decide) rfl (Nat.le_of_ble_eq_true rfl) (by decide) ?_
      refine g_aload_n d_X7_who_134 rfl ?_
      refine h_getR d_X7_who_135 fl_7_34 sp_M rfl ?_
      refine g_iload_n d_X7_who_138 rfl ?_
      refine g_if_ne d_X7_who_139 (fun c139 => ?_) (fun c139 => absurd c139 (by decide))
      refine g_iload_n d_X7_who_146 rfl ?_
      refine g_iconst d_X7_who_147 ik_1 ?_
      refine g_icmp_ne d_X7_who_148 (fun c148 => ?_) (fun c148 => absurd c148 (by decide))
      refine g_bipush d_X7_who_156 bk_12 ?_
      refine g_iload_n d_X7_who_158 rfl ?_
      refine g_iadd d_X7_who_159 ?_
      refine g_iload d_X7_who_160 rfl ?_
      refine mm_astE (k := (12 + r)) d_X7_who_162 (j := 9) sp_m_e rfl (by decide) (nAdd rfl rfl) (by omega) (by decide) ?_
      refine g_iload d_X7_who_163 rfl ?_
      refine g_aload_n d_X7_who_165 rfl ?_
      refine g_iload_n d_X7_who_166 rfl ?_
      refine g_iload d_X7_who_167 rfl ?_
      refine g_iload d_X7_who_169 rfl ?_
      refine h_V3P d_X7_who_171 cl_7_244 (m7_goesSo wN hIv hn1 (hf.tr ((nowR_fs (w := w')).set (j := 9) (by omega))) hq hi hrow) sp_M (by decide) rfl (Nat.le_of_ble_eq_true rfl) (by decide) ?_
      intro v' h' hp
      obtain ⟨rfl, w2, rfl, hf3⟩ := hp
      refine g_if_eq d_X7_who_174 (fun c174 => ?_) (fun c174 => ?_)
      · refine g_iconst d_X7_who_184 ik_0 ?_
        refine g_ior d_X7_who_185 ?_
        refine w_istore (L' := [_, _, _, _, _, _, _, _, _, _]) d_X7_who_186 rfl rfl rfl ?_
        refine w_iinc (L' := [_, _, _, _, _, _, _, _, _, _]) d_X7_who_188 ik_1 rfl rfl rfl rfl ?_
        refine g_goto d_X7_who_191 ?_
        rw [nI_1]
        refine h_weaken (ih (v + 1) (by omega) _ _ _ hf3) ?_
        intro v' h' hp
        refine ⟨?_, hp.2⟩
        rw [hp.1, woS, if_pos hv9]
        first | rw [if_pos c174, Int32.or_zero] | rw [if_neg c174]
      · refine g_iconst d_X7_who_177 ik_1 ?_
        refine g_iload d_X7_who_178 rfl ?_
        refine g_ishl d_X7_who_180 ?_
        refine g_goto d_X7_who_181 ?_
        refine g_ior d_X7_who_185 ?_
        refine w_istore (L' := [_, _, _, _, _, _, _, _, _, _]) d_X7_who_186 rfl rfl rfl ?_
        refine w_iinc (L' := [_, _, _, _, _, _, _, _, _, _]) d_X7_who_188 ik_1 rfl rfl rfl rfl ?_
        refine g_goto d_X7_who_191 ?_
        rw [nI_1]
        refine h_weaken (ih (v + 1) (by omega) _ _ _ hf3) ?_
        intro v' h' hp
        refine ⟨?_, hp.2⟩
        rw [hp.1, woS, if_pos hv9]
        first | rw [if_pos c174, Int32.or_zero] | rw [if_neg c174]
theorem wo_eq2 (p : Nat → Int32) : woS p 6 0 0 = woS (fun v => if v < 6 then p v else 0) 10 0 0 := by
  simp [woS]
theorem op_who {h w : Hv} (hR : RelP h w) {x y u s z : Int32} : OPI M_X6_who M_X7_who 5 4 [.int x, .int y, .int u, .int s, .int z] (mu h w) := by
  obtain ⟨M, N, hM5, hN6, gM, wM, gN, wN, hZ⟩ := hR.mn
  have eM : (nI M).toInt = M := nI_toInt (by omega)
  have eN : (nI N).toInt = N := nI_toInt (by omega)
  have eM1 := nI_predI (t := M) (by omega)
  have eN1 := nI_predI (t := N) (by omega)
  refine MtH.of [some (.ref 0), some (.int x), some (.int y), some (.int u), some (.int s), some (.int z), none, none, none, none, none, none] pl_X6 rfl rfl ?_
  refine g_aload_n d_X6_who_0 rfl ?_
  refine h_getR d_X6_who_1 fl_6_26 sp_L rfl ?_
  refine g_iload_n d_X6_who_4 rfl ?_
  refine h_V1i d_X6_who_5 cl_6_170 p_hasMachine (sp_hall hall_15) (by decide) rfl (Nat.le_of_ble_eq_true rfl) (by decide) ?_
  refine g_if_eq d_X6_who_8 (fun c8 => ?_) (fun c8 => ?_)
  · refine g_ldc d_X6_who_35 kc_X6_66 ?_
    refine h_iret d_X6_who_37 rfl ?_
    refine ⟨_, rfl, ?_⟩
    refine MtH.of [some (.ref 360), some (.int x), some (.int y), some (.int u), some (.int s), some (.int z), none, none, none, none] pl_X7 rfl rfl ?_
    refine g_aload_n d_X7_who_0 rfl ?_
    refine g_iconst d_X7_who_1 ik_0 ?_
    refine mm_putI d_X7_who_2 fl_7_62 sp_M rfl ?_
    refine g_aload_n d_X7_who_5 rfl ?_
    refine g_iload_n d_X7_who_6 rfl ?_
    refine h_V1i d_X7_who_7 cl_7_201 (m7_isMachine ((hs_j (by decide)).trans wM)) sp_M (by decide) rfl (Nat.le_of_ble_eq_true rfl) (by decide) ?_
    refine g_if_eq d_X7_who_10 (fun c10 => ?_) (fun c10 => ?_)
    · refine g_ldc d_X7_who_40 kc_X7_78 ?_
      refine h_iret d_X7_who_42 rfl ?_
      exact ⟨rfl, _, _, rfl, hR.fr fr_thrown⟩
    · refine g_iload_n d_X7_who_13 rfl ?_
      refine g_iconst d_X7_who_14 ik_0 ?_
      refine g_iconst d_X7_who_15 ik_2 ?_
      refine h_S3i d_X7_who_16 cl_7_70 m7_in (Nat.le_of_ble_eq_true rfl) (by decide) ?_
      refine g_if_eq d_X7_who_19 (fun c19 => ?_) (fun c19 => ?_)
      · refine g_ldc d_X7_who_40 kc_X7_78 ?_
        refine h_iret d_X7_who_42 rfl ?_
        exact ⟨rfl, _, _, rfl, hR.fr fr_thrown⟩
      · refine g_iload_n d_X7_who_22 rfl ?_
        refine h_S1i d_X7_who_23 cl_7_74 m7_isRow (Nat.le_of_ble_eq_true rfl) (by decide) ?_
        refine g_if_eq d_X7_who_26 (fun c26 => ?_) (fun c26 => ?_)
        · refine g_ldc d_X7_who_40 kc_X7_78 ?_
          refine h_iret d_X7_who_42 rfl ?_
          exact ⟨rfl, _, _, rfl, hR.fr fr_thrown⟩
        · refine g_iload d_X7_who_29 rfl ?_
          refine g_iconst d_X7_who_31 ik_1 ?_
          refine g_bipush d_X7_who_32 bk_12 ?_
          refine h_S3i d_X7_who_34 cl_7_70 m7_in (Nat.le_of_ble_eq_true rfl) (by decide) ?_
          refine g_if_ne d_X7_who_37 (fun c37 => ?_) (fun c37 => ?_)
          · exfalso
            simp only [b2i_eq0, b2i_ne0, Int32.lt_iff_toInt_lt, Int32.le_iff_toInt_le, t_0, t_1, t_2, t_3, t_4, t_5, t_6, t_7, t_8, t_9, t_10, t_11, t_12, t_20, t_24, t_40, t_50, t_60, t_99, t_110, t_255, t_999, t_999999, t_m1, gM, gN, eM, eN, eM1, eN1] at *
            omega
          · refine g_ldc d_X7_who_40 kc_X7_78 ?_
            refine h_iret d_X7_who_42 rfl ?_
            exact ⟨rfl, _, _, rfl, hR.fr fr_thrown⟩
  · refine g_iload_n d_X6_who_11 rfl ?_
    refine g_if_lt d_X6_who_12 (fun c12 => ?_) (fun c12 => ?_)
    · refine g_ldc d_X6_who_35 kc_X6_66 ?_
      refine h_iret d_X6_who_37 rfl ?_
      refine ⟨_, rfl, ?_⟩
      refine MtH.of [some (.ref 360), some (.int x), some (.int y), some (.int u), some (.int s), some (.int z), none, none, none, none] pl_X7 rfl rfl ?_
      refine g_aload_n d_X7_who_0 rfl ?_
      refine g_iconst d_X7_who_1 ik_0 ?_
      refine mm_putI d_X7_who_2 fl_7_62 sp_M rfl ?_
      refine g_aload_n d_X7_who_5 rfl ?_
      refine g_iload_n d_X7_who_6 rfl ?_
      refine h_V1i d_X7_who_7 cl_7_201 (m7_isMachine ((hs_j (by decide)).trans wM)) sp_M (by decide) rfl (Nat.le_of_ble_eq_true rfl) (by decide) ?_
      refine g_if_eq d_X7_who_10 (fun c10 => ?_) (fun c10 => ?_)
      · refine g_ldc d_X7_who_40 kc_X7_78 ?_
        refine h_iret d_X7_who_42 rfl ?_
        exact ⟨rfl, _, _, rfl, hR.fr fr_thrown⟩
      · refine g_iload_n d_X7_who_13 rfl ?_
        refine g_iconst d_X7_who_14 ik_0 ?_
        refine g_iconst d_X7_who_15 ik_2 ?_
        refine h_S3i d_X7_who_16 cl_7_70 m7_in (Nat.le_of_ble_eq_true rfl) (by decide) ?_
        refine g_if_eq d_X7_who_19 (fun c19 => ?_) (fun c19 => ?_)
        · refine g_ldc d_X7_who_40 kc_X7_78 ?_
          refine h_iret d_X7_who_42 rfl ?_
          exact ⟨rfl, _, _, rfl, hR.fr fr_thrown⟩
        · refine g_iload_n d_X7_who_22 rfl ?_
          refine h_S1i d_X7_who_23 cl_7_74 m7_isRow (Nat.le_of_ble_eq_true rfl) (by decide) ?_
          refine g_if_eq d_X7_who_26 (fun c26 => ?_) (fun c26 => ?_)
          · refine g_ldc d_X7_who_40 kc_X7_78 ?_
            refine h_iret d_X7_who_42 rfl ?_
            exact ⟨rfl, _, _, rfl, hR.fr fr_thrown⟩
          · refine g_iload d_X7_who_29 rfl ?_
            refine g_iconst d_X7_who_31 ik_1 ?_
            refine g_bipush d_X7_who_32 bk_12 ?_
            refine h_S3i d_X7_who_34 cl_7_70 m7_in (Nat.le_of_ble_eq_true rfl) (by decide) ?_
            refine g_if_ne d_X7_who_37 (fun c37 => ?_) (fun c37 => ?_)
            · exfalso
              simp only [b2i_eq0, b2i_ne0, Int32.lt_iff_toInt_lt, Int32.le_iff_toInt_le, t_0, t_1, t_2, t_3, t_4, t_5, t_6, t_7, t_8, t_9, t_10, t_11, t_12, t_20, t_24, t_40, t_50, t_60, t_99, t_110, t_255, t_999, t_999999, t_m1, gM, gN, eM, eN, eM1, eN1] at *
              omega
            · refine g_ldc d_X7_who_40 kc_X7_78 ?_
              refine h_iret d_X7_who_42 rfl ?_
              exact ⟨rfl, _, _, rfl, hR.fr fr_thrown⟩
    · refine g_iload_n d_X6_who_15 rfl ?_
      refine g_iconst d_X6_who_16 ik_2 ?_
      refine g_icmp_gt d_X6_who_17 (fun c17 => ?_) (fun c17 => ?_)
      · refine g_ldc d_X6_who_35 kc_X6_66 ?_
        refine h_iret d_X6_who_37 rfl ?_
        refine ⟨_, rfl, ?_⟩
        refine MtH.of [some (.ref 360), some (.int x), some (.int y), some (.int u), some (.int s), some (.int z), none, none, none, none] pl_X7 rfl rfl ?_
        refine g_aload_n d_X7_who_0 rfl ?_
        refine g_iconst d_X7_who_1 ik_0 ?_
        refine mm_putI d_X7_who_2 fl_7_62 sp_M rfl ?_
        refine g_aload_n d_X7_who_5 rfl ?_
        refine g_iload_n d_X7_who_6 rfl ?_
        refine h_V1i d_X7_who_7 cl_7_201 (m7_isMachine ((hs_j (by decide)).trans wM)) sp_M (by decide) rfl (Nat.le_of_ble_eq_true rfl) (by decide) ?_
        refine g_if_eq d_X7_who_10 (fun c10 => ?_) (fun c10 => ?_)
        · refine g_ldc d_X7_who_40 kc_X7_78 ?_
          refine h_iret d_X7_who_42 rfl ?_
          exact ⟨rfl, _, _, rfl, hR.fr fr_thrown⟩
        · refine g_iload_n d_X7_who_13 rfl ?_
          refine g_iconst d_X7_who_14 ik_0 ?_
          refine g_iconst d_X7_who_15 ik_2 ?_
          refine h_S3i d_X7_who_16 cl_7_70 m7_in (Nat.le_of_ble_eq_true rfl) (by decide) ?_
          refine g_if_eq d_X7_who_19 (fun c19 => ?_) (fun c19 => ?_)
          · refine g_ldc d_X7_who_40 kc_X7_78 ?_
            refine h_iret d_X7_who_42 rfl ?_
            exact ⟨rfl, _, _, rfl, hR.fr fr_thrown⟩
          · refine g_iload_n d_X7_who_22 rfl ?_
            refine h_S1i d_X7_who_23 cl_7_74 m7_isRow (Nat.le_of_ble_eq_true rfl) (by decide) ?_
            refine g_if_eq d_X7_who_26 (fun c26 => ?_) (fun c26 => ?_)
            · refine g_ldc d_X7_who_40 kc_X7_78 ?_
              refine h_iret d_X7_who_42 rfl ?_
              exact ⟨rfl, _, _, rfl, hR.fr fr_thrown⟩
            · refine g_iload d_X7_who_29 rfl ?_
              refine g_iconst d_X7_who_31 ik_1 ?_
              refine g_bipush d_X7_who_32 bk_12 ?_
              refine h_S3i d_X7_who_34 cl_7_70 m7_in (Nat.le_of_ble_eq_true rfl) (by decide) ?_
              refine g_if_ne d_X7_who_37 (fun c37 => ?_) (fun c37 => ?_)
              · exfalso
                simp only [b2i_eq0, b2i_ne0, Int32.lt_iff_toInt_lt, Int32.le_iff_toInt_le, t_0, t_1, t_2, t_3, t_4, t_5, t_6, t_7, t_8, t_9, t_10, t_11, t_12, t_20, t_24, t_40, t_50, t_60, t_99, t_110, t_255, t_999, t_999999, t_m1, gM, gN, eM, eN, eM1, eN1] at *
                omega
              · refine g_ldc d_X7_who_40 kc_X7_78 ?_
                refine h_iret d_X7_who_42 rfl ?_
                exact ⟨rfl, _, _, rfl, hR.fr fr_thrown⟩
      · refine g_iload_n d_X6_who_20 rfl ?_
        refine h_S1i d_X6_who_21 cl_6_62 m_isOne (Nat.le_of_ble_eq_true rfl) (by decide) ?_
        refine g_if_eq d_X6_who_24 (fun c24 => ?_) (fun c24 => ?_)
        · refine g_ldc d_X6_who_35 kc_X6_66 ?_
          refine h_iret d_X6_who_37 rfl ?_
          refine ⟨_, rfl, ?_⟩
          refine MtH.of [some (.ref 360), some (.int x), some (.int y), some (.int u), some (.int s), some (.int z), none, none, none, none] pl_X7 rfl rfl ?_
          refine g_aload_n d_X7_who_0 rfl ?_
          refine g_iconst d_X7_who_1 ik_0 ?_
          refine mm_putI d_X7_who_2 fl_7_62 sp_M rfl ?_
          refine g_aload_n d_X7_who_5 rfl ?_
          refine g_iload_n d_X7_who_6 rfl ?_
          refine h_V1i d_X7_who_7 cl_7_201 (m7_isMachine ((hs_j (by decide)).trans wM)) sp_M (by decide) rfl (Nat.le_of_ble_eq_true rfl) (by decide) ?_
          refine g_if_eq d_X7_who_10 (fun c10 => ?_) (fun c10 => ?_)
          · refine g_ldc d_X7_who_40 kc_X7_78 ?_
            refine h_iret d_X7_who_42 rfl ?_
            exact ⟨rfl, _, _, rfl, hR.fr fr_thrown⟩
          · refine g_iload_n d_X7_who_13 rfl ?_
            refine g_iconst d_X7_who_14 ik_0 ?_
            refine g_iconst d_X7_who_15 ik_2 ?_
            refine h_S3i d_X7_who_16 cl_7_70 m7_in (Nat.le_of_ble_eq_true rfl) (by decide) ?_
            refine g_if_eq d_X7_who_19 (fun c19 => ?_) (fun c19 => ?_)
            · refine g_ldc d_X7_who_40 kc_X7_78 ?_
              refine h_iret d_X7_who_42 rfl ?_
              exact ⟨rfl, _, _, rfl, hR.fr fr_thrown⟩
            · refine g_iload_n d_X7_who_22 rfl ?_
              refine h_S1i d_X7_who_23 cl_7_74 m7_isRow (Nat.le_of_ble_eq_true rfl) (by decide) ?_
              refine g_if_eq d_X7_who_26 (fun c26 => ?_) (fun c26 => ?_)
              · refine g_ldc d_X7_who_40 kc_X7_78 ?_
                refine h_iret d_X7_who_42 rfl ?_
                exact ⟨rfl, _, _, rfl, hR.fr fr_thrown⟩
              · refine g_iload d_X7_who_29 rfl ?_
                refine g_iconst d_X7_who_31 ik_1 ?_
                refine g_bipush d_X7_who_32 bk_12 ?_
                refine h_S3i d_X7_who_34 cl_7_70 m7_in (Nat.le_of_ble_eq_true rfl) (by decide) ?_
                refine g_if_ne d_X7_who_37 (fun c37 => ?_) (fun c37 => ?_)
                · exfalso
                  simp only [b2i_eq0, b2i_ne0, Int32.lt_iff_toInt_lt, Int32.le_iff_toInt_le, t_0, t_1, t_2, t_3, t_4, t_5, t_6, t_7, t_8, t_9, t_10, t_11, t_12, t_20, t_24, t_40, t_50, t_60, t_99, t_110, t_255, t_999, t_999999, t_m1, gM, gN, eM, eN, eM1, eN1] at *
                  omega
                · refine g_ldc d_X7_who_40 kc_X7_78 ?_
                  refine h_iret d_X7_who_42 rfl ?_
                  exact ⟨rfl, _, _, rfl, hR.fr fr_thrown⟩
        · refine g_iload d_X6_who_27 rfl ?_
          refine h_S1i d_X6_who_29 cl_6_303 m6_isTold (Nat.le_of_ble_eq_true rfl) (by decide) ?_
          refine g_if_ne d_X6_who_32 (fun c32 => ?_) (fun c32 => ?_)
          · obtain ⟨r, hr, rfl⟩ := rngI (x := x) (B := M) (by simp only [b2i_eq0, b2i_ne0, Int32.lt_iff_toInt_lt, Int32.le_iff_toInt_le, t_0, t_1, t_2, t_3, t_4, t_5, t_6, t_7, t_8, t_9, t_10, t_11, t_12, t_20, t_24, t_40, t_50, t_60, t_99, t_110, t_255, t_999, t_999999, t_m1, gM, gN, eM, eN, eM1, eN1] at *; omega) (by simp only [b2i_eq0, b2i_ne0, Int32.lt_iff_toInt_lt, Int32.le_iff_toInt_le, t_0, t_1, t_2, t_3, t_4, t_5, t_6, t_7, t_8, t_9, t_10, t_11, t_12, t_20, t_24, t_40, t_50, t_60, t_99, t_110, t_255, t_999, t_999999, t_m1, gM, gN, eM, eN, eM1, eN1] at *; omega)
            have er : (nI r).toInt = r := nI_toInt (by omega)
            obtain ⟨q, hq, rfl⟩ := rngI (x := u) (B := 8) (by simp only [b2i_eq0, b2i_ne0, Int32.lt_iff_toInt_lt, Int32.le_iff_toInt_le, t_0, t_1, t_2, t_3, t_4, t_5, t_6, t_7, t_8, t_9, t_10, t_11, t_12, t_20, t_24, t_40, t_50, t_60, t_99, t_110, t_255, t_999, t_999999, t_m1, er, gM, gN, eM, eN, eM1, eN1] at *; omega) (by simp only [b2i_eq0, b2i_ne0, Int32.lt_iff_toInt_lt, Int32.le_iff_toInt_le, t_0, t_1, t_2, t_3, t_4, t_5, t_6, t_7, t_8, t_9, t_10, t_11, t_12, t_20, t_24, t_40, t_50, t_60, t_99, t_110, t_255, t_999, t_999999, t_m1, er, gM, gN, eM, eN, eM1, eN1] at *; omega)
            have eq : (nI q).toInt = q := nI_toInt (by omega)
            obtain ⟨n, hn, rfl⟩ := rngI (x := z) (B := 13) (by simp only [b2i_eq0, b2i_ne0, Int32.lt_iff_toInt_lt, Int32.le_iff_toInt_le, t_0, t_1, t_2, t_3, t_4, t_5, t_6, t_7, t_8, t_9, t_10, t_11, t_12, t_20, t_24, t_40, t_50, t_60, t_99, t_110, t_255, t_999, t_999999, t_m1, er, eq, gM, gN, eM, eN, eM1, eN1] at *; omega) (by simp only [b2i_eq0, b2i_ne0, Int32.lt_iff_toInt_lt, Int32.le_iff_toInt_le, t_0, t_1, t_2, t_3, t_4, t_5, t_6, t_7, t_8, t_9, t_10, t_11, t_12, t_20, t_24, t_40, t_50, t_60, t_99, t_110, t_255, t_999, t_999999, t_m1, er, eq, gM, gN, eM, eN, eM1, eN1] at *; omega)
            have en : (nI n).toInt = n := nI_toInt (by omega)
            obtain ⟨i0, c0, hi0, hi1, hS, hA, hO⟩ := (hZ.resolve_left (fun z => by have := z.1; have := z.2.1; omega)).2.2
            have hI := hS.1
            rcases fnd hR.2.1 hq (i := s) (n := n) (by omega) with ⟨hc, ha⟩ | ⟨hc, ha⟩ | ⟨i0, rfl, hi0, hrow, hc, ha⟩
            · refine g_aload_n d_X6_who_38 rfl ?_
              refine h_getR d_X6_who_39 fl_6_10 sp_L rfl ?_
              refine g_iload_n d_X6_who_42 rfl ?_
              refine g_iload d_X6_who_43 rfl ?_
              refine g_iload d_X6_who_45 rfl ?_
              refine h_V3i d_X6_who_47 cl_6_78 hc sp_Rows (by decide) rfl (Nat.le_of_ble_eq_true rfl) (by decide) ?_
              refine w_istore (L' := [_, _, _, _, _, _, _, _, _, _, _, _]) d_X6_who_50 rfl rfl rfl ?_
              refine g_iload d_X6_who_52 rfl ?_
              refine g_if_eq d_X6_who_54 (fun c54 => absurd c54 (by decide)) (fun c54 => ?_)
              refine g_aload_n d_X6_who_57 rfl ?_
              refine g_iload d_X6_who_58 rfl ?_
              refine h_V1i d_X6_who_60 cl_6_67 m6_found sp_L (by decide) rfl (Nat.le_of_ble_eq_true rfl) (by decide) ?_
              refine h_iret d_X6_who_63 rfl ?_
              refine ⟨_, rfl, ?_⟩
              rw [mu_hset (by decide)]
              refine MtH.of [some (.ref 360), some (.int (nI r)), some (.int y), some (.int (nI q)), some (.int s), some (.int (nI n)), none, none, none, none] pl_X7 rfl rfl ?_
              refine g_aload_n d_X7_who_0 rfl ?_
              refine g_iconst d_X7_who_1 ik_0 ?_
              refine mm_putI d_X7_who_2 fl_7_62 sp_M rfl ?_
              refine g_aload_n d_X7_who_5 rfl ?_
              refine g_iload_n d_X7_who_6 rfl ?_
              refine h_V1i d_X7_who_7 cl_7_201 (m7_isMachine ((hs_j (by decide)).trans wM)) sp_M (by decide) rfl (Nat.le_of_ble_eq_true rfl) (by decide) ?_
              refine g_if_eq d_X7_who_10 (fun c10 => ?_) (fun c10 => ?_)
              · exfalso
                simp only [b2i_eq0, b2i_ne0, Int32.lt_iff_toInt_lt, Int32.le_iff_toInt_le, t_0, t_1, t_2, t_3, t_4, t_5, t_6, t_7, t_8, t_9, t_10, t_11, t_12, t_20, t_24, t_40, t_50, t_60, t_99, t_110, t_255, t_999, t_999999, t_m1, er, eq, en, gM, gN, eM, eN, eM1, eN1] at *
                omega
              · refine g_iload_n d_X7_who_13 rfl ?_
                refine g_iconst d_X7_who_14 ik_0 ?_
                refine g_iconst d_X7_who_15 ik_2 ?_
                refine h_S3i d_X7_who_16 cl_7_70 m7_in (Nat.le_of_ble_eq_true rfl) (by decide) ?_
                refine g_if_eq d_X7_who_19 (fun c19 => ?_) (fun c19 => ?_)
                · exfalso
                  simp only [b2i_eq0, b2i_ne0, Int32.lt_iff_toInt_lt, Int32.le_iff_toInt_le, t_0, t_1, t_2, t_3, t_4, t_5, t_6, t_7, t_8, t_9, t_10, t_11, t_12, t_20, t_24, t_40, t_50, t_60, t_99, t_110, t_255, t_999, t_999999, t_m1, er, eq, en, gM, gN, eM, eN, eM1, eN1] at *
                  omega
                · refine g_iload_n d_X7_who_22 rfl ?_
                  refine h_S1i d_X7_who_23 cl_7_74 m7_isRow (Nat.le_of_ble_eq_true rfl) (by decide) ?_
                  refine g_if_eq d_X7_who_26 (fun c26 => ?_) (fun c26 => ?_)
                  · exfalso
                    simp only [b2i_eq0, b2i_ne0, Int32.lt_iff_toInt_lt, Int32.le_iff_toInt_le, t_0, t_1, t_2, t_3, t_4, t_5, t_6, t_7, t_8, t_9, t_10, t_11, t_12, t_20, t_24, t_40, t_50, t_60, t_99, t_110, t_255, t_999, t_999999, t_m1, er, eq, en, gM, gN, eM, eN, eM1, eN1] at *
                    omega
                  · refine g_iload d_X7_who_29 rfl ?_
                    refine g_iconst d_X7_who_31 ik_1 ?_
                    refine g_bipush d_X7_who_32 bk_12 ?_
                    refine h_S3i d_X7_who_34 cl_7_70 m7_in (Nat.le_of_ble_eq_true rfl) (by decide) ?_
                    refine g_if_ne d_X7_who_37 (fun c37 => ?_) (fun c37 => ?_)
                    · refine g_aload_n d_X7_who_43 rfl ?_
                      refine g_iload_n d_X7_who_44 rfl ?_
                      refine g_iload d_X7_who_45 rfl ?_
                      refine g_iload d_X7_who_47 rfl ?_
                      refine h_V3i d_X7_who_49 cl_7_240 (ha _) sp_M (by decide) rfl (Nat.le_of_ble_eq_true rfl) (by decide) ?_
                      refine w_istore (L' := [_, _, _, _, _, _, _, _, _, _]) d_X7_who_52 rfl rfl rfl ?_
                      refine g_iload d_X7_who_54 rfl ?_
                      refine g_if_eq d_X7_who_56 (fun c56 => absurd c56 (by decide)) (fun c56 => ?_)
                      refine g_iload d_X7_who_59 rfl ?_
                      refine h_iret d_X7_who_61 rfl ?_
                      exact ⟨rfl, _, _, rfl, hR.stat 1⟩
                    · exfalso
                      simp only [b2i_eq0, b2i_ne0, Int32.lt_iff_toInt_lt, Int32.le_iff_toInt_le, t_0, t_1, t_2, t_3, t_4, t_5, t_6, t_7, t_8, t_9, t_10, t_11, t_12, t_20, t_24, t_40, t_50, t_60, t_99, t_110, t_255, t_999, t_999999, t_m1, er, eq, en, gM, gN, eM, eN, eM1, eN1] at *
                      omega
            · refine g_aload_n d_X6_who_38 rfl ?_
              refine h_getR d_X6_who_39 fl_6_10 sp_L rfl ?_
              refine g_iload_n d_X6_who_42 rfl ?_
              refine g_iload d_X6_who_43 rfl ?_
              refine g_iload d_X6_who_45 rfl ?_
              refine h_V3i d_X6_who_47 cl_6_78 hc sp_Rows (by decide) rfl (Nat.le_of_ble_eq_true rfl) (by decide) ?_
              refine w_istore (L' := [_, _, _, _, _, _, _, _, _, _, _, _]) d_X6_who_50 rfl rfl rfl ?_
              refine g_iload d_X6_who_52 rfl ?_
              refine g_if_eq d_X6_who_54 (fun c54 => absurd c54 (by decide)) (fun c54 => ?_)
              refine g_aload_n d_X6_who_57 rfl ?_
              refine g_iload d_X6_who_58 rfl ?_
              refine h_V1i d_X6_who_60 cl_6_67 m6_found sp_L (by decide) rfl (Nat.le_of_ble_eq_true rfl) (by decide) ?_
              refine h_iret d_X6_who_63 rfl ?_
              refine ⟨_, rfl, ?_⟩
              rw [mu_hset (by decide)]
              refine MtH.of [some (.ref 360), some (.int (nI r)), some (.int y), some (.int (nI q)), some (.int s), some (.int (nI n)), none, none, none, none] pl_X7 rfl rfl ?_
              refine g_aload_n d_X7_who_0 rfl ?_
              refine g_iconst d_X7_who_1 ik_0 ?_
              refine mm_putI d_X7_who_2 fl_7_62 sp_M rfl ?_
              refine g_aload_n d_X7_who_5 rfl ?_
              refine g_iload_n d_X7_who_6 rfl ?_
              refine h_V1i d_X7_who_7 cl_7_201 (m7_isMachine ((hs_j (by decide)).trans wM)) sp_M (by decide) rfl (Nat.le_of_ble_eq_true rfl) (by decide) ?_
              refine g_if_eq d_X7_who_10 (fun c10 => ?_) (fun c10 => ?_)
              · exfalso
                simp only [b2i_eq0, b2i_ne0, Int32.lt_iff_toInt_lt, Int32.le_iff_toInt_le, t_0, t_1, t_2, t_3, t_4, t_5, t_6, t_7, t_8, t_9, t_10, t_11, t_12, t_20, t_24, t_40, t_50, t_60, t_99, t_110, t_255, t_999, t_999999, t_m1, er, eq, en, gM, gN, eM, eN, eM1, eN1] at *
                omega
              · refine g_iload_n d_X7_who_13 rfl ?_
                refine g_iconst d_X7_who_14 ik_0 ?_
                refine g_iconst d_X7_who_15 ik_2 ?_
                refine h_S3i d_X7_who_16 cl_7_70 m7_in (Nat.le_of_ble_eq_true rfl) (by decide) ?_
                refine g_if_eq d_X7_who_19 (fun c19 => ?_) (fun c19 => ?_)
                · exfalso
                  simp only [b2i_eq0, b2i_ne0, Int32.lt_iff_toInt_lt, Int32.le_iff_toInt_le, t_0, t_1, t_2, t_3, t_4, t_5, t_6, t_7, t_8, t_9, t_10, t_11, t_12, t_20, t_24, t_40, t_50, t_60, t_99, t_110, t_255, t_999, t_999999, t_m1, er, eq, en, gM, gN, eM, eN, eM1, eN1] at *
                  omega
                · refine g_iload_n d_X7_who_22 rfl ?_
                  refine h_S1i d_X7_who_23 cl_7_74 m7_isRow (Nat.le_of_ble_eq_true rfl) (by decide) ?_
                  refine g_if_eq d_X7_who_26 (fun c26 => ?_) (fun c26 => ?_)
                  · exfalso
                    simp only [b2i_eq0, b2i_ne0, Int32.lt_iff_toInt_lt, Int32.le_iff_toInt_le, t_0, t_1, t_2, t_3, t_4, t_5, t_6, t_7, t_8, t_9, t_10, t_11, t_12, t_20, t_24, t_40, t_50, t_60, t_99, t_110, t_255, t_999, t_999999, t_m1, er, eq, en, gM, gN, eM, eN, eM1, eN1] at *
                    omega
                  · refine g_iload d_X7_who_29 rfl ?_
                    refine g_iconst d_X7_who_31 ik_1 ?_
                    refine g_bipush d_X7_who_32 bk_12 ?_
                    refine h_S3i d_X7_who_34 cl_7_70 m7_in (Nat.le_of_ble_eq_true rfl) (by decide) ?_
                    refine g_if_ne d_X7_who_37 (fun c37 => ?_) (fun c37 => ?_)
                    · refine g_aload_n d_X7_who_43 rfl ?_
                      refine g_iload_n d_X7_who_44 rfl ?_
                      refine g_iload d_X7_who_45 rfl ?_
                      refine g_iload d_X7_who_47 rfl ?_
                      refine h_V3i d_X7_who_49 cl_7_240 (ha _) sp_M (by decide) rfl (Nat.le_of_ble_eq_true rfl) (by decide) ?_
                      refine w_istore (L' := [_, _, _, _, _, _, _, _, _, _]) d_X7_who_52 rfl rfl rfl ?_
                      refine g_iload d_X7_who_54 rfl ?_
                      refine g_if_eq d_X7_who_56 (fun c56 => absurd c56 (by decide)) (fun c56 => ?_)
                      refine g_iload d_X7_who_59 rfl ?_
                      refine h_iret d_X7_who_61 rfl ?_
                      exact ⟨rfl, _, _, rfl, hR.stat 2⟩
                    · exfalso
                      simp only [b2i_eq0, b2i_ne0, Int32.lt_iff_toInt_lt, Int32.le_iff_toInt_le, t_0, t_1, t_2, t_3, t_4, t_5, t_6, t_7, t_8, t_9, t_10, t_11, t_12, t_20, t_24, t_40, t_50, t_60, t_99, t_110, t_255, t_999, t_999999, t_m1, er, eq, en, gM, gN, eM, eN, eM1, eN1] at *
                      omega
            · obtain ⟨t0, ht0, rfl⟩ := rngI (x := y) (B := 3) (by simp only [b2i_eq0, b2i_ne0, Int32.lt_iff_toInt_lt, Int32.le_iff_toInt_le, t_0, t_1, t_2, t_3, t_4, t_5, t_6, t_7, t_8, t_9, t_10, t_11, t_12, t_20, t_24, t_40, t_50, t_60, t_99, t_110, t_255, t_999, t_999999, t_m1, er, eq, en, gM, gN, eM, eN, eM1, eN1] at *; omega) (by simp only [b2i_eq0, b2i_ne0, Int32.lt_iff_toInt_lt, Int32.le_iff_toInt_le, t_0, t_1, t_2, t_3, t_4, t_5, t_6, t_7, t_8, t_9, t_10, t_11, t_12, t_20, t_24, t_40, t_50, t_60, t_99, t_110, t_255, t_999, t_999999, t_m1, er, eq, en, gM, gN, eM, eN, eM1, eN1] at *; omega)
              have et0 : (nI t0).toInt = t0 := nI_toInt (by omega)
              rcases (show t0 = 0 ∨ t0 = 1 ∨ t0 = 2 by omega) with rfl | rfl | rfl
              · refine g_aload_n d_X6_who_38 rfl ?_
                refine h_getR d_X6_who_39 fl_6_10 sp_L rfl ?_
                refine g_iload_n d_X6_who_42 rfl ?_
                refine g_iload d_X6_who_43 rfl ?_
                refine g_iload d_X6_who_45 rfl ?_
                refine h_V3i d_X6_who_47 cl_6_78 hc sp_Rows (by decide) rfl (Nat.le_of_ble_eq_true rfl) (by decide) ?_
                refine w_istore (L' := [_, _, _, _, _, _, _, _, _, _, _, _]) d_X6_who_50 rfl rfl rfl ?_
                refine g_iload d_X6_who_52 rfl ?_
                refine g_if_eq d_X6_who_54 (fun c54 => ?_) (fun c54 => absurd rfl c54)
                refine g_iload_n d_X6_who_64 rfl ?_
                refine g_iconst d_X6_who_65 ik_2 ?_
                refine g_icmp_ne d_X6_who_66 (fun c66 => ?_) (fun c66 => absurd c66 (by decide))
                refine g_iconst d_X6_who_73 ik_1 ?_
                refine w_istore (L' := [_, _, _, _, _, _, _, _, _, _, _, _]) d_X6_who_74 rfl rfl rfl ?_
                refine g_iload_n d_X6_who_76 rfl ?_
                refine g_if_ne d_X6_who_77 (fun c77 => absurd c77 (by decide)) (fun c77 => ?_)
                refine g_iconst d_X6_who_80 ik_5 ?_
                refine g_goto d_X6_who_81 ?_
                refine w_istore (L' := [_, _, _, _, _, _, _, _, _, _, _, _]) d_X6_who_95 rfl rfl rfl ?_
                refine g_iconst d_X6_who_97 ik_0 ?_
                refine w_istore (L' := [_, _, _, _, _, _, _, _, _, _, _, _]) d_X6_who_98 rfl rfl rfl ?_
                refine g_iload d_X6_who_100 rfl ?_
                refine w_istore (L' := [_, _, _, _, _, _, _, _, _, _, _, _]) d_X6_who_102 rfl rfl rfl ?_
                rw [show mu h w = pu (mu h w) 27 (hv (mu h w) 27) from pu_hv.symm]
                refine h_weaken (lp_who6_0 (h := h) (w := w) (n := n) (row := fun t => w 1 (40 * q + i0 + t)) hI hr hq hi0 (by omega) hrow 5 1 rfl (by omega) _ _ _) ?_
                intro v' h' hp
                obtain ⟨rfl, g', rfl⟩ := hp
                refine ⟨_, rfl, ?_⟩
                rw [mu_pu (by decide), mu_hset (by decide)]
                refine MtH.of [some (.ref 360), some (.int (nI r)), some (.int 0), some (.int (nI q)), some (.int (nI i0)), some (.int (nI n)), none, none, none, none] pl_X7 rfl rfl ?_
                refine g_aload_n d_X7_who_0 rfl ?_
                refine g_iconst d_X7_who_1 ik_0 ?_
                refine mm_putI d_X7_who_2 fl_7_62 sp_M rfl ?_
                refine g_aload_n d_X7_who_5 rfl ?_
                refine g_iload_n d_X7_who_6 rfl ?_
                refine h_V1i d_X7_who_7 cl_7_201 (m7_isMachine ((hs_j (by decide)).trans wM)) sp_M (by decide) rfl (Nat.le_of_ble_eq_true rfl) (by decide) ?_
                refine g_if_eq d_X7_who_10 (fun c10 => ?_) (fun c10 => ?_)
                · exfalso
                  simp only [b2i_eq0, b2i_ne0, Int32.lt_iff_toInt_lt, Int32.le_iff_toInt_le, t_0, t_1, t_2, t_3, t_4, t_5, t_6, t_7, t_8, t_9, t_10, t_11, t_12, t_20, t_24, t_40, t_50, t_60, t_99, t_110, t_255, t_999, t_999999, t_m1, er, eq, en, gM, gN, eM, eN, eM1, eN1] at *
                  omega
                · refine g_iload_n d_X7_who_13 rfl ?_
                  refine g_iconst d_X7_who_14 ik_0 ?_
                  refine g_iconst d_X7_who_15 ik_2 ?_
                  refine h_S3i d_X7_who_16 cl_7_70 m7_in (Nat.le_of_ble_eq_true rfl) (by decide) ?_
                  refine g_if_eq d_X7_who_19 (fun c19 => absurd c19 (by decide)) (fun c19 => ?_)
                  refine g_iload_n d_X7_who_22 rfl ?_
                  refine h_S1i d_X7_who_23 cl_7_74 m7_isRow (Nat.le_of_ble_eq_true rfl) (by decide) ?_
                  refine g_if_eq d_X7_who_26 (fun c26 => ?_) (fun c26 => ?_)
                  · exfalso
                    simp only [b2i_eq0, b2i_ne0, Int32.lt_iff_toInt_lt, Int32.le_iff_toInt_le, t_0, t_1, t_2, t_3, t_4, t_5, t_6, t_7, t_8, t_9, t_10, t_11, t_12, t_20, t_24, t_40, t_50, t_60, t_99, t_110, t_255, t_999, t_999999, t_m1, er, eq, en, gM, gN, eM, eN, eM1, eN1] at *
                    omega
                  · refine g_iload d_X7_who_29 rfl ?_
                    refine g_iconst d_X7_who_31 ik_1 ?_
                    refine g_bipush d_X7_who_32 bk_12 ?_
                    refine h_S3i d_X7_who_34 cl_7_70 m7_in (Nat.le_of_ble_eq_true rfl) (by decide) ?_
                    refine g_if_ne d_X7_who_37 (fun c37 => ?_) (fun c37 => ?_)
                    · refine g_aload_n d_X7_who_43 rfl ?_
                      refine g_iload_n d_X7_who_44 rfl ?_
                      refine g_iload d_X7_who_45 rfl ?_
                      refine g_iload d_X7_who_47 rfl ?_
                      refine h_V3i d_X7_who_49 cl_7_240 (ha _) sp_M (by decide) rfl (Nat.le_of_ble_eq_true rfl) (by decide) ?_
                      refine w_istore (L' := [_, _, _, _, _, _, _, _, _, _]) d_X7_who_52 rfl rfl rfl ?_
                      refine g_iload d_X7_who_54 rfl ?_
                      refine g_if_eq d_X7_who_56 (fun c56 => ?_) (fun c56 => absurd rfl c56)
                      refine g_iconst d_X7_who_62 ik_0 ?_
                      refine w_istore (L' := [_, _, _, _, _, _, _, _, _, _]) d_X7_who_63 rfl rfl rfl ?_
                      refine g_iconst d_X7_who_65 ik_0 ?_
                      refine w_istore (L' := [_, _, _, _, _, _, _, _, _, _]) d_X7_who_66 rfl rfl rfl ?_
                      refine h_weaken (lp_who7_0 (w := hset w 0 0 0) (row := fun t => w 1 (40 * q + i0 + t)) hI ((hs_j (by decide)).trans wN) (hS.2.1.th hM5 hN6) hS.2.2.1.1 hr hq hi0 (by omega) (fun t _ => hs_j (by decide)) 10 0 rfl _ _ _ FrS.rf) ?_
                      intro v' h' hp
                      obtain ⟨rfl, w3, rfl, hf3⟩ := hp
                      exact ⟨by rw [wo_eq0], _, _, rfl, ((hR.fc fc_27).fr (fr_thrown.tr hf3.fr)).stat2 0⟩
                    · exfalso
                      simp only [b2i_eq0, b2i_ne0, Int32.lt_iff_toInt_lt, Int32.le_iff_toInt_le, t_0, t_1, t_2, t_3, t_4, t_5, t_6, t_7, t_8, t_9, t_10, t_11, t_12, t_20, t_24, t_40, t_50, t_60, t_99, t_110, t_255, t_999, t_999999, t_m1, er, eq, en, gM, gN, eM, eN, eM1, eN1] at *
                      omega
              · refine g_aload_n d_X6_who_38 rfl ?_
                refine h_getR d_X6_who_39 fl_6_10 sp_L rfl ?_
                refine g_iload_n d_X6_who_42 rfl ?_
                refine g_iload d_X6_who_43 rfl ?_
                refine g_iload d_X6_who_45 rfl ?_
                refine h_V3i d_X6_who_47 cl_6_78 hc sp_Rows (by decide) rfl (Nat.le_of_ble_eq_true rfl) (by decide) ?_
                refine w_istore (L' := [_, _, _, _, _, _, _, _, _, _, _, _]) d_X6_who_50 rfl rfl rfl ?_
                refine g_iload d_X6_who_52 rfl ?_
                refine g_if_eq d_X6_who_54 (fun c54 => ?_) (fun c54 => absurd rfl c54)
                refine g_iload_n d_X6_who_64 rfl ?_
                refine g_iconst d_X6_who_65 ik_2 ?_
                refine g_icmp_ne d_X6_who_66 (fun c66 => ?_) (fun c66 => absurd c66 (by decide))
                refine g_iconst d_X6_who_73 ik_1 ?_
                refine w_istore (L' := [_, _, _, _, _, _, _, _, _, _, _, _]) d_X6_who_74 rfl rfl rfl ?_
                refine g_iload_n d_X6_who_76 rfl ?_
                refine g_if_ne d_X6_who_77 (fun c77 => ?_) (fun c77 => absurd c77 (by decide))
                refine g_iload_n d_X6_who_84 rfl ?_
                refine g_iconst d_X6_who_85 ik_1 ?_
                refine g_icmp_ne d_X6_who_86 (fun c86 => absurd c86 (by decide)) (fun c86 => ?_)
                refine g_bipush d_X6_who_89 bk_9 ?_
                refine g_goto d_X6_who_91 ?_
                refine w_istore (L' := [_, _, _, _, _, _, _, _, _, _, _, _]) d_X6_who_95 rfl rfl rfl ?_
                refine g_iconst d_X6_who_97 ik_0 ?_
                refine w_istore (L' := [_, _, _, _, _, _, _, _, _, _, _, _]) d_X6_who_98 rfl rfl rfl ?_
                refine g_iload d_X6_who_100 rfl ?_
                refine w_istore (L' := [_, _, _, _, _, _, _, _, _, _, _, _]) d_X6_who_102 rfl rfl rfl ?_
                rw [show mu h w = pu (mu h w) 27 (hv (mu h w) 27) from pu_hv.symm]
                refine h_weaken (lp_who6_1 (h := h) (w := w) (n := n) (row := fun t => w 1 (40 * q + i0 + t)) hI hr hq hi0 (by omega) hrow 9 1 rfl (by omega) _ _ _) ?_
                intro v' h' hp
                obtain ⟨rfl, g', rfl⟩ := hp
                refine ⟨_, rfl, ?_⟩
                rw [mu_pu (by decide), mu_hset (by decide)]
                refine MtH.of [some (.ref 360), some (.int (nI r)), some (.int 1), some (.int (nI q)), some (.int (nI i0)), some (.int (nI n)), none, none, none, none] pl_X7 rfl rfl ?_
                refine g_aload_n d_X7_who_0 rfl ?_
                refine g_iconst d_X7_who_1 ik_0 ?_
                refine mm_putI d_X7_who_2 fl_7_62 sp_M rfl ?_
                refine g_aload_n d_X7_who_5 rfl ?_
                refine g_iload_n d_X7_who_6 rfl ?_
                refine h_V1i d_X7_who_7 cl_7_201 (m7_isMachine ((hs_j (by decide)).trans wM)) sp_M (by decide) rfl (Nat.le_of_ble_eq_true rfl) (by decide) ?_
                refine g_if_eq d_X7_who_10 (fun c10 => ?_) (fun c10 => ?_)
                · exfalso
                  simp only [b2i_eq0, b2i_ne0, Int32.lt_iff_toInt_lt, Int32.le_iff_toInt_le, t_0, t_1, t_2, t_3, t_4, t_5, t_6, t_7, t_8, t_9, t_10, t_11, t_12, t_20, t_24, t_40, t_50, t_60, t_99, t_110, t_255, t_999, t_999999, t_m1, er, eq, en, gM, gN, eM, eN, eM1, eN1] at *
                  omega
                · refine g_iload_n d_X7_who_13 rfl ?_
                  refine g_iconst d_X7_who_14 ik_0 ?_
                  refine g_iconst d_X7_who_15 ik_2 ?_
                  refine h_S3i d_X7_who_16 cl_7_70 m7_in (Nat.le_of_ble_eq_true rfl) (by decide) ?_
                  refine g_if_eq d_X7_who_19 (fun c19 => absurd c19 (by decide)) (fun c19 => ?_)
                  refine g_iload_n d_X7_who_22 rfl ?_
                  refine h_S1i d_X7_who_23 cl_7_74 m7_isRow (Nat.le_of_ble_eq_true rfl) (by decide) ?_
                  refine g_if_eq d_X7_who_26 (fun c26 => ?_) (fun c26 => ?_)
                  · exfalso
                    simp only [b2i_eq0, b2i_ne0, Int32.lt_iff_toInt_lt, Int32.le_iff_toInt_le, t_0, t_1, t_2, t_3, t_4, t_5, t_6, t_7, t_8, t_9, t_10, t_11, t_12, t_20, t_24, t_40, t_50, t_60, t_99, t_110, t_255, t_999, t_999999, t_m1, er, eq, en, gM, gN, eM, eN, eM1, eN1] at *
                    omega
                  · refine g_iload d_X7_who_29 rfl ?_
                    refine g_iconst d_X7_who_31 ik_1 ?_
                    refine g_bipush d_X7_who_32 bk_12 ?_
                    refine h_S3i d_X7_who_34 cl_7_70 m7_in (Nat.le_of_ble_eq_true rfl) (by decide) ?_
                    refine g_if_ne d_X7_who_37 (fun c37 => ?_) (fun c37 => ?_)
                    · refine g_aload_n d_X7_who_43 rfl ?_
                      refine g_iload_n d_X7_who_44 rfl ?_
                      refine g_iload d_X7_who_45 rfl ?_
                      refine g_iload d_X7_who_47 rfl ?_
                      refine h_V3i d_X7_who_49 cl_7_240 (ha _) sp_M (by decide) rfl (Nat.le_of_ble_eq_true rfl) (by decide) ?_
                      refine w_istore (L' := [_, _, _, _, _, _, _, _, _, _]) d_X7_who_52 rfl rfl rfl ?_
                      refine g_iload d_X7_who_54 rfl ?_
                      refine g_if_eq d_X7_who_56 (fun c56 => ?_) (fun c56 => absurd rfl c56)
                      refine g_iconst d_X7_who_62 ik_0 ?_
                      refine w_istore (L' := [_, _, _, _, _, _, _, _, _, _]) d_X7_who_63 rfl rfl rfl ?_
                      refine g_iconst d_X7_who_65 ik_0 ?_
                      refine w_istore (L' := [_, _, _, _, _, _, _, _, _, _]) d_X7_who_66 rfl rfl rfl ?_
                      refine h_weaken (lp_who7_1 (w := hset w 0 0 0) (row := fun t => w 1 (40 * q + i0 + t)) hI ((hs_j (by decide)).trans wN) (hS.2.1.th hM5 hN6) hS.2.2.1.1 hr hq hi0 (by omega) (fun t _ => hs_j (by decide)) 10 0 rfl _ _ _ FrS.rf) ?_
                      intro v' h' hp
                      obtain ⟨rfl, w3, rfl, hf3⟩ := hp
                      exact ⟨by rw [wo_eq1], _, _, rfl, ((hR.fc fc_27).fr (fr_thrown.tr hf3.fr)).stat2 0⟩
                    · exfalso
                      simp only [b2i_eq0, b2i_ne0, Int32.lt_iff_toInt_lt, Int32.le_iff_toInt_le, t_0, t_1, t_2, t_3, t_4, t_5, t_6, t_7, t_8, t_9, t_10, t_11, t_12, t_20, t_24, t_40, t_50, t_60, t_99, t_110, t_255, t_999, t_999999, t_m1, er, eq, en, gM, gN, eM, eN, eM1, eN1] at *
                      omega
              · refine g_aload_n d_X6_who_38 rfl ?_
                refine h_getR d_X6_who_39 fl_6_10 sp_L rfl ?_
                refine g_iload_n d_X6_who_42 rfl ?_
                refine g_iload d_X6_who_43 rfl ?_
                refine g_iload d_X6_who_45 rfl ?_
                refine h_V3i d_X6_who_47 cl_6_78 hc sp_Rows (by decide) rfl (Nat.le_of_ble_eq_true rfl) (by decide) ?_
                refine w_istore (L' := [_, _, _, _, _, _, _, _, _, _, _, _]) d_X6_who_50 rfl rfl rfl ?_
                refine g_iload d_X6_who_52 rfl ?_
                refine g_if_eq d_X6_who_54 (fun c54 => ?_) (fun c54 => absurd rfl c54)
                refine g_iload_n d_X6_who_64 rfl ?_
                refine g_iconst d_X6_who_65 ik_2 ?_
                refine g_icmp_ne d_X6_who_66 (fun c66 => absurd c66 (by decide)) (fun c66 => ?_)
                refine g_iconst d_X6_who_69 ik_0 ?_
                refine g_goto d_X6_who_70 ?_
                refine w_istore (L' := [_, _, _, _, _, _, _, _, _, _, _, _]) d_X6_who_74 rfl rfl rfl ?_
                refine g_iload_n d_X6_who_76 rfl ?_
                refine g_if_ne d_X6_who_77 (fun c77 => ?_) (fun c77 => absurd c77 (by decide))
                refine g_iload_n d_X6_who_84 rfl ?_
                refine g_iconst d_X6_who_85 ik_1 ?_
                refine g_icmp_ne d_X6_who_86 (fun c86 => ?_) (fun c86 => absurd c86 (by decide))
                refine g_iconst d_X6_who_94 ik_5 ?_
                refine w_istore (L' := [_, _, _, _, _, _, _, _, _, _, _, _]) d_X6_who_95 rfl rfl rfl ?_
                refine g_iconst d_X6_who_97 ik_0 ?_
                refine w_istore (L' := [_, _, _, _, _, _, _, _, _, _, _, _]) d_X6_who_98 rfl rfl rfl ?_
                refine g_iload d_X6_who_100 rfl ?_
                refine w_istore (L' := [_, _, _, _, _, _, _, _, _, _, _, _]) d_X6_who_102 rfl rfl rfl ?_
                rw [show mu h w = pu (mu h w) 27 (hv (mu h w) 27) from pu_hv.symm]
                refine h_weaken (lp_who6_2 (h := h) (w := w) (n := n) (row := fun t => w 1 (40 * q + i0 + t)) hI hr hq hi0 (by omega) hrow 6 0 rfl (by omega) _ _ _) ?_
                intro v' h' hp
                obtain ⟨rfl, g', rfl⟩ := hp
                refine ⟨_, rfl, ?_⟩
                rw [mu_pu (by decide), mu_hset (by decide)]
                refine MtH.of [some (.ref 360), some (.int (nI r)), some (.int 2), some (.int (nI q)), some (.int (nI i0)), some (.int (nI n)), none, none, none, none] pl_X7 rfl rfl ?_
                refine g_aload_n d_X7_who_0 rfl ?_
                refine g_iconst d_X7_who_1 ik_0 ?_
                refine mm_putI d_X7_who_2 fl_7_62 sp_M rfl ?_
                refine g_aload_n d_X7_who_5 rfl ?_
                refine g_iload_n d_X7_who_6 rfl ?_
                refine h_V1i d_X7_who_7 cl_7_201 (m7_isMachine ((hs_j (by decide)).trans wM)) sp_M (by decide) rfl (Nat.le_of_ble_eq_true rfl) (by decide) ?_
                refine g_if_eq d_X7_who_10 (fun c10 => ?_) (fun c10 => ?_)
                · exfalso
                  simp only [b2i_eq0, b2i_ne0, Int32.lt_iff_toInt_lt, Int32.le_iff_toInt_le, t_0, t_1, t_2, t_3, t_4, t_5, t_6, t_7, t_8, t_9, t_10, t_11, t_12, t_20, t_24, t_40, t_50, t_60, t_99, t_110, t_255, t_999, t_999999, t_m1, er, eq, en, gM, gN, eM, eN, eM1, eN1] at *
                  omega
                · refine g_iload_n d_X7_who_13 rfl ?_
                  refine g_iconst d_X7_who_14 ik_0 ?_
                  refine g_iconst d_X7_who_15 ik_2 ?_
                  refine h_S3i d_X7_who_16 cl_7_70 m7_in (Nat.le_of_ble_eq_true rfl) (by decide) ?_
                  refine g_if_eq d_X7_who_19 (fun c19 => absurd c19 (by decide)) (fun c19 => ?_)
                  refine g_iload_n d_X7_who_22 rfl ?_
                  refine h_S1i d_X7_who_23 cl_7_74 m7_isRow (Nat.le_of_ble_eq_true rfl) (by decide) ?_
                  refine g_if_eq d_X7_who_26 (fun c26 => ?_) (fun c26 => ?_)
                  · exfalso
                    simp only [b2i_eq0, b2i_ne0, Int32.lt_iff_toInt_lt, Int32.le_iff_toInt_le, t_0, t_1, t_2, t_3, t_4, t_5, t_6, t_7, t_8, t_9, t_10, t_11, t_12, t_20, t_24, t_40, t_50, t_60, t_99, t_110, t_255, t_999, t_999999, t_m1, er, eq, en, gM, gN, eM, eN, eM1, eN1] at *
                    omega
                  · refine g_iload d_X7_who_29 rfl ?_
                    refine g_iconst d_X7_who_31 ik_1 ?_
                    refine g_bipush d_X7_who_32 bk_12 ?_
                    refine h_S3i d_X7_who_34 cl_7_70 m7_in (Nat.le_of_ble_eq_true rfl) (by decide) ?_
                    refine g_if_ne d_X7_who_37 (fun c37 => ?_) (fun c37 => ?_)
                    · refine g_aload_n d_X7_who_43 rfl ?_
                      refine g_iload_n d_X7_who_44 rfl ?_
                      refine g_iload d_X7_who_45 rfl ?_
                      refine g_iload d_X7_who_47 rfl ?_
                      refine h_V3i d_X7_who_49 cl_7_240 (ha _) sp_M (by decide) rfl (Nat.le_of_ble_eq_true rfl) (by decide) ?_
                      refine w_istore (L' := [_, _, _, _, _, _, _, _, _, _]) d_X7_who_52 rfl rfl rfl ?_
                      refine g_iload d_X7_who_54 rfl ?_
                      refine g_if_eq d_X7_who_56 (fun c56 => ?_) (fun c56 => absurd rfl c56)
                      refine g_iconst d_X7_who_62 ik_0 ?_
                      refine w_istore (L' := [_, _, _, _, _, _, _, _, _, _]) d_X7_who_63 rfl rfl rfl ?_
                      refine g_iconst d_X7_who_65 ik_0 ?_
                      refine w_istore (L' := [_, _, _, _, _, _, _, _, _, _]) d_X7_who_66 rfl rfl rfl ?_
                      refine h_weaken (lp_who7_2 (w := hset w 0 0 0) (row := fun t => w 1 (40 * q + i0 + t)) hI ((hs_j (by decide)).trans wN) (hS.2.1.th hM5 hN6) hS.2.2.1.1 hr hq hi0 (by omega) (fun t _ => hs_j (by decide)) 10 0 rfl _ _ _ FrS.rf) ?_
                      intro v' h' hp
                      obtain ⟨rfl, w3, rfl, hf3⟩ := hp
                      exact ⟨by rw [wo_eq2], _, _, rfl, ((hR.fc fc_27).fr (fr_thrown.tr hf3.fr)).stat2 0⟩
                    · exfalso
                      simp only [b2i_eq0, b2i_ne0, Int32.lt_iff_toInt_lt, Int32.le_iff_toInt_le, t_0, t_1, t_2, t_3, t_4, t_5, t_6, t_7, t_8, t_9, t_10, t_11, t_12, t_20, t_24, t_40, t_50, t_60, t_99, t_110, t_255, t_999, t_999999, t_m1, er, eq, en, gM, gN, eM, eN, eM1, eN1] at *
                      omega
          · refine g_ldc d_X6_who_35 kc_X6_66 ?_
            refine h_iret d_X6_who_37 rfl ?_
            refine ⟨_, rfl, ?_⟩
            refine MtH.of [some (.ref 360), some (.int x), some (.int y), some (.int u), some (.int s), some (.int z), none, none, none, none] pl_X7 rfl rfl ?_
            refine g_aload_n d_X7_who_0 rfl ?_
            refine g_iconst d_X7_who_1 ik_0 ?_
            refine mm_putI d_X7_who_2 fl_7_62 sp_M rfl ?_
            refine g_aload_n d_X7_who_5 rfl ?_
            refine g_iload_n d_X7_who_6 rfl ?_
            refine h_V1i d_X7_who_7 cl_7_201 (m7_isMachine ((hs_j (by decide)).trans wM)) sp_M (by decide) rfl (Nat.le_of_ble_eq_true rfl) (by decide) ?_
            refine g_if_eq d_X7_who_10 (fun c10 => ?_) (fun c10 => ?_)
            · refine g_ldc d_X7_who_40 kc_X7_78 ?_
              refine h_iret d_X7_who_42 rfl ?_
              exact ⟨rfl, _, _, rfl, hR.fr fr_thrown⟩
            · refine g_iload_n d_X7_who_13 rfl ?_
              refine g_iconst d_X7_who_14 ik_0 ?_
              refine g_iconst d_X7_who_15 ik_2 ?_
              refine h_S3i d_X7_who_16 cl_7_70 m7_in (Nat.le_of_ble_eq_true rfl) (by decide) ?_
              refine g_if_eq d_X7_who_19 (fun c19 => ?_) (fun c19 => ?_)
              · refine g_ldc d_X7_who_40 kc_X7_78 ?_
                refine h_iret d_X7_who_42 rfl ?_
                exact ⟨rfl, _, _, rfl, hR.fr fr_thrown⟩
              · refine g_iload_n d_X7_who_22 rfl ?_
                refine h_S1i d_X7_who_23 cl_7_74 m7_isRow (Nat.le_of_ble_eq_true rfl) (by decide) ?_
                refine g_if_eq d_X7_who_26 (fun c26 => ?_) (fun c26 => ?_)
                · refine g_ldc d_X7_who_40 kc_X7_78 ?_
                  refine h_iret d_X7_who_42 rfl ?_
                  exact ⟨rfl, _, _, rfl, hR.fr fr_thrown⟩
                · refine g_iload d_X7_who_29 rfl ?_
                  refine g_iconst d_X7_who_31 ik_1 ?_
                  refine g_bipush d_X7_who_32 bk_12 ?_
                  refine h_S3i d_X7_who_34 cl_7_70 m7_in (Nat.le_of_ble_eq_true rfl) (by decide) ?_
                  refine g_if_ne d_X7_who_37 (fun c37 => ?_) (fun c37 => ?_)
                  · exfalso
                    simp only [b2i_eq0, b2i_ne0, Int32.lt_iff_toInt_lt, Int32.le_iff_toInt_le, t_0, t_1, t_2, t_3, t_4, t_5, t_6, t_7, t_8, t_9, t_10, t_11, t_12, t_20, t_24, t_40, t_50, t_60, t_99, t_110, t_255, t_999, t_999999, t_m1, gM, gN, eM, eN, eM1, eN1] at *
                    omega
                  · refine g_ldc d_X7_who_40 kc_X7_78 ?_
                    refine h_iret d_X7_who_42 rfl ?_
                    exact ⟨rfl, _, _, rfl, hR.fr fr_thrown⟩
theorem lp_sizes6 {h w : Hv} {M N l q i n : Nat} {row : Nat → Int32} (hI : HI M N (hv h 15)) (hl : l < N) (hq : q < 8) (hi : i + n ≤ 40) (hn : n ≤ 12) (hrow : ∀ t, t < n → h (5 + q) (i + t) = row t) : ∀ (m v : Nat), v + m = 10 → 1 ≤ v → ∀ (acc : Int32) (g' : Hv) (y : Option Value), GdH M_X6_sizes 5 77 [some (.ref 0), some (.int (nI l)), some (.int (nI q)), some (.int (nI i)), some (.int (nI n)), some (.int 0), some (.int acc), some (.int (nI v)), y] [] (pu (mu h w) 27 g') (fun v' h' => v' = some (.int (woS (fun v => ftS M N row n 0 (hset (hv h 15) 7 l (nI v))) m v acc)) ∧ ∃ g', h' = hset (pu (mu h w) 27 g') 0 9 0) := by
  have hN6 := hI.hN6
  intro m
  induction m with
  | zero =>
    intro v hv1 hv2 acc g' y
    refine g_iload d_X6_sizes_77 rfl ?_
    refine g_bipush d_X6_sizes_79 bk_9 ?_
    refine g_icmp_gt d_X6_sizes_81 (fun c81 => ?_) (fun c81 => absurd ((nI_ltI (a := 9) (b := v) (by decide) (by omega)).mpr (by omega)) c81)
    refine g_aload_n d_X6_sizes_127 rfl ?_
    refine g_iload d_X6_sizes_128 rfl ?_
    refine h_V1i d_X6_sizes_130 cl_6_75 m6_foundNothing sp_L (by decide) rfl (Nat.le_of_ble_eq_true rfl) (by decide) ?_
    refine h_iret d_X6_sizes_133 rfl ?_
    exact ⟨rfl, _, rfl⟩
  | succ m ih =>
    intro v hv1 hv2 acc g' y
    have hIv := hI.size (l := l) (v := v) (by omega) (by omega)
    refine g_iload d_X6_sizes_77 rfl ?_
    refine g_bipush d_X6_sizes_79 bk_9 ?_
    refine g_icmp_gt d_X6_sizes_81 (fun c81 => absurd c81 (fun z => by have := (nI_ltI (a := 9) (b := v) (by decide) (by omega)).mp z; omega)) (fun c81 => ?_)
    refine g_aload_n d_X6_sizes_84 rfl ?_
    refine h_V0a d_X6_sizes_85 cl_6_242 p_asNow27 sp_L (by decide) rfl (Nat.le_of_ble_eq_true rfl) (by decide) ?_
    refine w_astore (L' := [_, _, _, _, _, _, _, _, _]) d_X6_sizes_88 rfl rfl rfl ?_
    refine g_aload d_X6_sizes_90 rfl ?_
    refine h_getR d_X6_sizes_92 fl_6_214 (sp_hall hall_27) rfl ?_
    refine g_iload_n d_X6_sizes_95 rfl ?_
    refine g_iload d_X6_sizes_96 rfl ?_
    refine hh_astE (k := l) d_X6_sizes_98 (sp_h7 hall_27) (by decide) rfl (by omega) (by decide) ?_
    refine g_aload_n d_X6_sizes_99 rfl ?_
    refine g_aload d_X6_sizes_100 rfl ?_
    refine g_iload_n d_X6_sizes_102 rfl ?_
    refine g_iload_n d_X6_sizes_103 rfl ?_
    refine g_iload d_X6_sizes_104 rfl ?_
    refine h_V4P d_X6_sizes_106 cl_6_309 (m6_fits hIv hq hi (fun t ht => (mu_low (by omega)).trans (hrow t ht))) sp_L (by decide) rfl (Nat.le_of_ble_eq_true rfl) (by decide) ?_
    intro v' h' hp
    obtain ⟨rfl, g2, rfl⟩ := hp
    refine g_if_eq d_X6_sizes_109 (fun c109 => ?_) (fun c109 => ?_)
    · refine w_iinc (L' := [_, _, _, _, _, _, _, _, _]) d_X6_sizes_121 ik_1 rfl rfl rfl rfl ?_
      refine g_goto d_X6_sizes_124 ?_
      rw [nI_1]
      refine h_weaken (ih (v + 1) (by omega) (by omega) _ _ _) ?_
      intro v' h' hp
      exact ⟨by rw [hp.1, woS]; first | rw [if_pos c109] | rw [if_neg c109], hp.2⟩
    · refine g_iload d_X6_sizes_112 rfl ?_
      refine g_iconst d_X6_sizes_114 ik_1 ?_
      refine g_iload d_X6_sizes_115 rfl ?_
      refine g_ishl d_X6_sizes_117 ?_
      refine g_ior d_X6_sizes_118 ?_
      refine w_istore (L' := [_, _, _, _, _, _, _, _, _]) d_X6_sizes_119 rfl rfl rfl ?_
      refine w_iinc (L' := [_, _, _, _, _, _, _, _, _]) d_X6_sizes_121 ik_1 rfl rfl rfl rfl ?_
      refine g_goto d_X6_sizes_124 ?_
      rw [nI_1]
      refine h_weaken (ih (v + 1) (by omega) (by omega) _ _ _) ?_
      intro v' h' hp
      exact ⟨by rw [hp.1, woS]; first | rw [if_pos c109] | rw [if_neg c109], hp.2⟩
theorem lp_sizes7 {h w g : Hv} {M N l q i n : Nat} {row : Nat → Int32} (hI : HI M N g) (wN : w 7 1 = nI N) (hR : Rep0 M N g w 7 8) (hrk : ∀ j, j < N → g 11 j = nI j) (hl : l < N) (hq : q < 8) (hi : i + n ≤ 40) (hn : n ≤ 12) (hrow : ∀ t, t < n → w 1 (40 * q + i + t) = row t) : ∀ (m v : Nat), v + m = 10 → 1 ≤ v → ∀ (acc : Int32) (w' : Hv), FrS w w' → GdH M_X7_sizes 4 75 [some (.ref 360), some (.int (nI l)), some (.int (nI q)), some (.int (nI i)), some (.int (nI n)), some (.int 0), some (.int acc), some (.int (nI v))] [] (mu h w') (fun v' h' => v' = some (.int (woS (fun v => ftS M N row n 0 (hset g 7 l (nI v))) m v acc)) ∧ ∃ w2, h' = mu h (hset w2 0 4 0) ∧ FrS w w2) := by
  have hN6 := hI.hN6
  intro m
  induction m with
  | zero =>
    intro v hv1 hv2 acc w' hf
    refine g_iload d_X7_sizes_75 rfl ?_
    refine g_bipush d_X7_sizes_77 bk_10 ?_
    refine g_icmp_ge d_X7_sizes_79 (fun c79 => ?_) (fun c79 => absurd (nI_le (a := 10) (b := v) (by omega) (by omega)) c79)
    refine g_aload_n d_X7_sizes_131 rfl ?_
    refine g_iload d_X7_sizes_132 rfl ?_
    refine h_V1i d_X7_sizes_134 cl_7_83 m7_well sp_M (by decide) rfl (Nat.le_of_ble_eq_true rfl) (by decide) ?_
    refine h_iret d_X7_sizes_137 rfl ?_
    exact ⟨rfl, _, rfl, hf⟩
  | succ m ih =>
    intro v hv1 hv2 acc w' hf
    have hIv := hI.size (l := l) (v := v) (by omega) (by omega)
    have hn0 := rep_now (hf.r0 hR hI.hM5 hI.hN6) hI.hM5 hI.hN6 hrk
    have hn1 := rep_7 (v := nI v) hn0 (Or.inr ⟨rfl, rfl⟩) hI.hM5 hI.hN6 hl
    refine g_iload d_X7_sizes_75 rfl ?_
    refine g_bipush d_X7_sizes_77 bk_10 ?_
    refine g_icmp_ge d_X7_sizes_79 (fun c79 => absurd c79 (nI_ge (a := v) (b := 10) (by omega) (by omega))) (fun c79 => ?_)
    refine g_aload_n d_X7_sizes_82 rfl ?_
    refine h_V0v d_X7_sizes_83 cl_7_178 m7_asNow sp_M (by decide) rfl (Nat.le_of_ble_eq_true rfl) (by decide) ?_
    refine g_aload_n d_X7_sizes_86 rfl ?_
    refine h_V0v d_X7_sizes_87 cl_7_181 m7_ranksByNumber sp_M (by decide) rfl (Nat.le_of_ble_eq_true rfl) (by decide) ?_
    refine g_aload_n d_X7_sizes_90 rfl ?_
    refine h_getR d_X7_sizes_91 fl_7_37 sp_M rfl ?_
    refine g_bipush d_X7_sizes_94 bk_18 ?_
    refine g_iload_n d_X7_sizes_96 rfl ?_
    refine g_iadd d_X7_sizes_97 ?_
    refine g_iload d_X7_sizes_98 rfl ?_
    refine mm_astE (k := (18 + l)) d_X7_sizes_100 (j := 10) sp_m_w rfl (by decide) (nAdd rfl rfl) (by omega) (by decide) ?_
    refine g_iload d_X7_sizes_101 rfl ?_
    refine g_aload_n d_X7_sizes_103 rfl ?_
    refine g_iload_n d_X7_sizes_104 rfl ?_
    refine g_iload_n d_X7_sizes_105 rfl ?_
    refine g_iload d_X7_sizes_106 rfl ?_
    refine h_V3P d_X7_sizes_108 cl_7_244 (m7_goesSo wN hIv hn1 (hf.tr ((nowR_fs (w := w')).set (j := 10) (by omega))) hq hi hrow) sp_M (by decide) rfl (Nat.le_of_ble_eq_true rfl) (by decide) ?_
    intro v' h' hp
    obtain ⟨rfl, w2, rfl, hf3⟩ := hp
    refine g_if_eq d_X7_sizes_111 (fun c111 => ?_) (fun c111 => ?_)
    · refine g_iconst d_X7_sizes_121 ik_0 ?_
      refine g_ior d_X7_sizes_122 ?_
      refine w_istore (L' := [_, _, _, _, _, _, _, _]) d_X7_sizes_123 rfl rfl rfl ?_
      refine w_iinc (L' := [_, _, _, _, _, _, _, _]) d_X7_sizes_125 ik_1 rfl rfl rfl rfl ?_
      refine g_goto d_X7_sizes_128 ?_
      rw [nI_1]
      refine h_weaken (ih (v + 1) (by omega) (by omega) _ _ hf3) ?_
      intro v' h' hp
      refine ⟨?_, hp.2⟩
      rw [hp.1, woS]
      first | rw [if_pos c111, Int32.or_zero] | rw [if_neg c111]
    · refine g_iconst d_X7_sizes_114 ik_1 ?_
      refine g_iload d_X7_sizes_115 rfl ?_
      refine g_ishl d_X7_sizes_117 ?_
      refine g_goto d_X7_sizes_118 ?_
      refine g_ior d_X7_sizes_122 ?_
      refine w_istore (L' := [_, _, _, _, _, _, _, _]) d_X7_sizes_123 rfl rfl rfl ?_
      refine w_iinc (L' := [_, _, _, _, _, _, _, _]) d_X7_sizes_125 ik_1 rfl rfl rfl rfl ?_
      refine g_goto d_X7_sizes_128 ?_
      rw [nI_1]
      refine h_weaken (ih (v + 1) (by omega) (by omega) _ _ hf3) ?_
      intro v' h' hp
      refine ⟨?_, hp.2⟩
      rw [hp.1, woS]
      first | rw [if_pos c111, Int32.or_zero] | rw [if_neg c111]
theorem op_sizes {h w : Hv} (hR : RelP h w) {x u s z : Int32} : OPI M_X6_sizes M_X7_sizes 5 4 [.int x, .int u, .int s, .int z] (mu h w) := by
  obtain ⟨M, N, hM5, hN6, gM, wM, gN, wN, hZ⟩ := hR.mn
  have eM : (nI M).toInt = M := nI_toInt (by omega)
  have eN : (nI N).toInt = N := nI_toInt (by omega)
  have eM1 := nI_predI (t := M) (by omega)
  have eN1 := nI_predI (t := N) (by omega)
  refine MtH.of [some (.ref 0), some (.int x), some (.int u), some (.int s), some (.int z), none, none, none, none] pl_X6 rfl rfl ?_
  refine g_aload_n d_X6_sizes_0 rfl ?_
  refine h_getR d_X6_sizes_1 fl_6_26 sp_L rfl ?_
  refine g_iload_n d_X6_sizes_4 rfl ?_
  refine h_V1i d_X6_sizes_5 cl_6_183 p_hasLoad (sp_hall hall_15) (by decide) rfl (Nat.le_of_ble_eq_true rfl) (by decide) ?_
  refine g_if_eq d_X6_sizes_8 (fun c8 => ?_) (fun c8 => ?_)
  · refine g_ldc d_X6_sizes_26 kc_X6_66 ?_
    refine h_iret d_X6_sizes_28 rfl ?_
    refine ⟨_, rfl, ?_⟩
    refine MtH.of [some (.ref 360), some (.int x), some (.int u), some (.int s), some (.int z), none, none, none] pl_X7 rfl rfl ?_
    refine g_aload_n d_X7_sizes_0 rfl ?_
    refine g_iconst d_X7_sizes_1 ik_0 ?_
    refine mm_putI d_X7_sizes_2 fl_7_62 sp_M rfl ?_
    refine g_aload_n d_X7_sizes_5 rfl ?_
    refine g_iload_n d_X7_sizes_6 rfl ?_
    refine h_V1i d_X7_sizes_7 cl_7_204 (m7_isLoad ((hs_j (by decide)).trans wN)) sp_M (by decide) rfl (Nat.le_of_ble_eq_true rfl) (by decide) ?_
    refine g_if_eq d_X7_sizes_10 (fun c10 => ?_) (fun c10 => ?_)
    · refine g_ldc d_X7_sizes_31 kc_X7_78 ?_
      refine h_iret d_X7_sizes_33 rfl ?_
      exact ⟨rfl, _, _, rfl, hR.fr fr_thrown⟩
    · refine g_iload_n d_X7_sizes_13 rfl ?_
      refine h_S1i d_X7_sizes_14 cl_7_74 m7_isRow (Nat.le_of_ble_eq_true rfl) (by decide) ?_
      refine g_if_eq d_X7_sizes_17 (fun c17 => ?_) (fun c17 => ?_)
      · refine g_ldc d_X7_sizes_31 kc_X7_78 ?_
        refine h_iret d_X7_sizes_33 rfl ?_
        exact ⟨rfl, _, _, rfl, hR.fr fr_thrown⟩
      · refine g_iload d_X7_sizes_20 rfl ?_
        refine g_iconst d_X7_sizes_22 ik_1 ?_
        refine g_bipush d_X7_sizes_23 bk_12 ?_
        refine h_S3i d_X7_sizes_25 cl_7_70 m7_in (Nat.le_of_ble_eq_true rfl) (by decide) ?_
        refine g_if_ne d_X7_sizes_28 (fun c28 => ?_) (fun c28 => ?_)
        · exfalso
          simp only [b2i_eq0, b2i_ne0, Int32.lt_iff_toInt_lt, Int32.le_iff_toInt_le, t_0, t_1, t_2, t_3, t_4, t_5, t_6, t_7, t_8, t_9, t_10, t_11, t_12, t_20, t_24, t_40, t_50, t_60, t_99, t_110, t_255, t_999, t_999999, t_m1, gM, gN, eM, eN, eM1, eN1] at *
          omega
        · refine g_ldc d_X7_sizes_31 kc_X7_78 ?_
          refine h_iret d_X7_sizes_33 rfl ?_
          exact ⟨rfl, _, _, rfl, hR.fr fr_thrown⟩
  · refine g_iload_n d_X6_sizes_11 rfl ?_
    refine h_S1i d_X6_sizes_12 cl_6_62 m_isOne (Nat.le_of_ble_eq_true rfl) (by decide) ?_
    refine g_if_eq d_X6_sizes_15 (fun c15 => ?_) (fun c15 => ?_)
    · refine g_ldc d_X6_sizes_26 kc_X6_66 ?_
      refine h_iret d_X6_sizes_28 rfl ?_
      refine ⟨_, rfl, ?_⟩
      refine MtH.of [some (.ref 360), some (.int x), some (.int u), some (.int s), some (.int z), none, none, none] pl_X7 rfl rfl ?_
      refine g_aload_n d_X7_sizes_0 rfl ?_
      refine g_iconst d_X7_sizes_1 ik_0 ?_
      refine mm_putI d_X7_sizes_2 fl_7_62 sp_M rfl ?_
      refine g_aload_n d_X7_sizes_5 rfl ?_
      refine g_iload_n d_X7_sizes_6 rfl ?_
      refine h_V1i d_X7_sizes_7 cl_7_204 (m7_isLoad ((hs_j (by decide)).trans wN)) sp_M (by decide) rfl (Nat.le_of_ble_eq_true rfl) (by decide) ?_
      refine g_if_eq d_X7_sizes_10 (fun c10 => ?_) (fun c10 => ?_)
      · refine g_ldc d_X7_sizes_31 kc_X7_78 ?_
        refine h_iret d_X7_sizes_33 rfl ?_
        exact ⟨rfl, _, _, rfl, hR.fr fr_thrown⟩
      · refine g_iload_n d_X7_sizes_13 rfl ?_
        refine h_S1i d_X7_sizes_14 cl_7_74 m7_isRow (Nat.le_of_ble_eq_true rfl) (by decide) ?_
        refine g_if_eq d_X7_sizes_17 (fun c17 => ?_) (fun c17 => ?_)
        · refine g_ldc d_X7_sizes_31 kc_X7_78 ?_
          refine h_iret d_X7_sizes_33 rfl ?_
          exact ⟨rfl, _, _, rfl, hR.fr fr_thrown⟩
        · refine g_iload d_X7_sizes_20 rfl ?_
          refine g_iconst d_X7_sizes_22 ik_1 ?_
          refine g_bipush d_X7_sizes_23 bk_12 ?_
          refine h_S3i d_X7_sizes_25 cl_7_70 m7_in (Nat.le_of_ble_eq_true rfl) (by decide) ?_
          refine g_if_ne d_X7_sizes_28 (fun c28 => ?_) (fun c28 => ?_)
          · exfalso
            simp only [b2i_eq0, b2i_ne0, Int32.lt_iff_toInt_lt, Int32.le_iff_toInt_le, t_0, t_1, t_2, t_3, t_4, t_5, t_6, t_7, t_8, t_9, t_10, t_11, t_12, t_20, t_24, t_40, t_50, t_60, t_99, t_110, t_255, t_999, t_999999, t_m1, gM, gN, eM, eN, eM1, eN1] at *
            omega
          · refine g_ldc d_X7_sizes_31 kc_X7_78 ?_
            refine h_iret d_X7_sizes_33 rfl ?_
            exact ⟨rfl, _, _, rfl, hR.fr fr_thrown⟩
    · refine g_iload d_X6_sizes_18 rfl ?_
      refine h_S1i d_X6_sizes_20 cl_6_303 m6_isTold (Nat.le_of_ble_eq_true rfl) (by decide) ?_
      refine g_if_ne d_X6_sizes_23 (fun c23 => ?_) (fun c23 => ?_)
      · obtain ⟨l, hl, rfl⟩ := rngI (x := x) (B := N) (by simp only [b2i_eq0, b2i_ne0, Int32.lt_iff_toInt_lt, Int32.le_iff_toInt_le, t_0, t_1, t_2, t_3, t_4, t_5, t_6, t_7, t_8, t_9, t_10, t_11, t_12, t_20, t_24, t_40, t_50, t_60, t_99, t_110, t_255, t_999, t_999999, t_m1, gM, gN, eM, eN, eM1, eN1] at *; omega) (by simp only [b2i_eq0, b2i_ne0, Int32.lt_iff_toInt_lt, Int32.le_iff_toInt_le, t_0, t_1, t_2, t_3, t_4, t_5, t_6, t_7, t_8, t_9, t_10, t_11, t_12, t_20, t_24, t_40, t_50, t_60, t_99, t_110, t_255, t_999, t_999999, t_m1, gM, gN, eM, eN, eM1, eN1] at *; omega)
        have el : (nI l).toInt = l := nI_toInt (by omega)
        obtain ⟨q, hq, rfl⟩ := rngI (x := u) (B := 8) (by simp only [b2i_eq0, b2i_ne0, Int32.lt_iff_toInt_lt, Int32.le_iff_toInt_le, t_0, t_1, t_2, t_3, t_4, t_5, t_6, t_7, t_8, t_9, t_10, t_11, t_12, t_20, t_24, t_40, t_50, t_60, t_99, t_110, t_255, t_999, t_999999, t_m1, el, gM, gN, eM, eN, eM1, eN1] at *; omega) (by simp only [b2i_eq0, b2i_ne0, Int32.lt_iff_toInt_lt, Int32.le_iff_toInt_le, t_0, t_1, t_2, t_3, t_4, t_5, t_6, t_7, t_8, t_9, t_10, t_11, t_12, t_20, t_24, t_40, t_50, t_60, t_99, t_110, t_255, t_999, t_999999, t_m1, el, gM, gN, eM, eN, eM1, eN1] at *; omega)
        have eq : (nI q).toInt = q := nI_toInt (by omega)
        obtain ⟨n, hn, rfl⟩ := rngI (x := z) (B := 13) (by simp only [b2i_eq0, b2i_ne0, Int32.lt_iff_toInt_lt, Int32.le_iff_toInt_le, t_0, t_1, t_2, t_3, t_4, t_5, t_6, t_7, t_8, t_9, t_10, t_11, t_12, t_20, t_24, t_40, t_50, t_60, t_99, t_110, t_255, t_999, t_999999, t_m1, el, eq, gM, gN, eM, eN, eM1, eN1] at *; omega) (by simp only [b2i_eq0, b2i_ne0, Int32.lt_iff_toInt_lt, Int32.le_iff_toInt_le, t_0, t_1, t_2, t_3, t_4, t_5, t_6, t_7, t_8, t_9, t_10, t_11, t_12, t_20, t_24, t_40, t_50, t_60, t_99, t_110, t_255, t_999, t_999999, t_m1, el, eq, gM, gN, eM, eN, eM1, eN1] at *; omega)
        have en : (nI n).toInt = n := nI_toInt (by omega)
        obtain ⟨i0, c0, hi0, hi1, hS, hA, hO⟩ := (hZ.resolve_left (fun z => by have := z.1; have := z.2.1; omega)).2.2
        have hI := hS.1
        refine g_aload_n d_X6_sizes_29 rfl ?_
        refine h_getR d_X6_sizes_30 fl_6_26 sp_L rfl ?_
        refine h_getR d_X6_sizes_33 fl_6_189 (sp_hall hall_15) rfl ?_
        refine g_iload_n d_X6_sizes_36 rfl ?_
        refine h_aldV (k := l) (v := hv h 15 9 l) d_X6_sizes_37 (sp_h9 hall_15) rfl (by omega) (by decide) ((mu_low (by decide)).trans (hv_at (by decide)).symm) ?_
        refine g_bipush d_X6_sizes_38 bk_10 ?_
        refine g_icmp_lt d_X6_sizes_40 (fun c40 => ?_) (fun c40 => ?_)
        · have k40 := c40
          rcases fnd hR.2.1 hq (i := s) (n := n) (by omega) with ⟨hc, ha⟩ | ⟨hc, ha⟩ | ⟨i0, rfl, hi0, hrow, hc, ha⟩
          · refine g_aload_n d_X6_sizes_46 rfl ?_
            refine h_getR d_X6_sizes_47 fl_6_10 sp_L rfl ?_
            refine g_iload_n d_X6_sizes_50 rfl ?_
            refine g_iload_n d_X6_sizes_51 rfl ?_
            refine g_iload d_X6_sizes_52 rfl ?_
            refine h_V3i d_X6_sizes_54 cl_6_78 hc sp_Rows (by decide) rfl (Nat.le_of_ble_eq_true rfl) (by decide) ?_
            refine w_istore (L' := [_, _, _, _, _, _, _, _, _]) d_X6_sizes_57 rfl rfl rfl ?_
            refine g_iload d_X6_sizes_59 rfl ?_
            refine g_if_eq d_X6_sizes_61 (fun c61 => absurd c61 (by decide)) (fun c61 => ?_)
            refine g_aload_n d_X6_sizes_64 rfl ?_
            refine g_iload d_X6_sizes_65 rfl ?_
            refine h_V1i d_X6_sizes_67 cl_6_67 m6_found sp_L (by decide) rfl (Nat.le_of_ble_eq_true rfl) (by decide) ?_
            refine h_iret d_X6_sizes_70 rfl ?_
            refine ⟨_, rfl, ?_⟩
            rw [mu_hset (by decide)]
            refine MtH.of [some (.ref 360), some (.int (nI l)), some (.int (nI q)), some (.int s), some (.int (nI n)), none, none, none] pl_X7 rfl rfl ?_
            refine g_aload_n d_X7_sizes_0 rfl ?_
            refine g_iconst d_X7_sizes_1 ik_0 ?_
            refine mm_putI d_X7_sizes_2 fl_7_62 sp_M rfl ?_
            refine g_aload_n d_X7_sizes_5 rfl ?_
            refine g_iload_n d_X7_sizes_6 rfl ?_
            refine h_V1i d_X7_sizes_7 cl_7_204 (m7_isLoad ((hs_j (by decide)).trans wN)) sp_M (by decide) rfl (Nat.le_of_ble_eq_true rfl) (by decide) ?_
            refine g_if_eq d_X7_sizes_10 (fun c10 => ?_) (fun c10 => ?_)
            · exfalso
              simp only [b2i_eq0, b2i_ne0, Int32.lt_iff_toInt_lt, Int32.le_iff_toInt_le, t_0, t_1, t_2, t_3, t_4, t_5, t_6, t_7, t_8, t_9, t_10, t_11, t_12, t_20, t_24, t_40, t_50, t_60, t_99, t_110, t_255, t_999, t_999999, t_m1, el, eq, en, gM, gN, eM, eN, eM1, eN1] at *
              omega
            · refine g_iload_n d_X7_sizes_13 rfl ?_
              refine h_S1i d_X7_sizes_14 cl_7_74 m7_isRow (Nat.le_of_ble_eq_true rfl) (by decide) ?_
              refine g_if_eq d_X7_sizes_17 (fun c17 => ?_) (fun c17 => ?_)
              · exfalso
                simp only [b2i_eq0, b2i_ne0, Int32.lt_iff_toInt_lt, Int32.le_iff_toInt_le, t_0, t_1, t_2, t_3, t_4, t_5, t_6, t_7, t_8, t_9, t_10, t_11, t_12, t_20, t_24, t_40, t_50, t_60, t_99, t_110, t_255, t_999, t_999999, t_m1, el, eq, en, gM, gN, eM, eN, eM1, eN1] at *
                omega
              · refine g_iload d_X7_sizes_20 rfl ?_
                refine g_iconst d_X7_sizes_22 ik_1 ?_
                refine g_bipush d_X7_sizes_23 bk_12 ?_
                refine h_S3i d_X7_sizes_25 cl_7_70 m7_in (Nat.le_of_ble_eq_true rfl) (by decide) ?_
                refine g_if_ne d_X7_sizes_28 (fun c28 => ?_) (fun c28 => ?_)
                · refine g_aload_n d_X7_sizes_34 rfl ?_
                  refine h_getR d_X7_sizes_35 fl_7_31 sp_M rfl ?_
                  refine g_bipush d_X7_sizes_38 bk_30 ?_
                  refine g_iload_n d_X7_sizes_40 rfl ?_
                  refine g_iadd d_X7_sizes_41 ?_
                  refine mm_aldV (k := (30 + l)) (v := hv h 15 9 l) d_X7_sizes_42 (j := 8) sp_m_s rfl (by decide) (nAdd rfl rfl) (by omega) (by decide) ((hs_j (by decide)).trans (hS.2.1.2.2 l hl).2.2.1.symm) ?_
                  refine g_bipush d_X7_sizes_43 bk_10 ?_
                  refine g_icmp_lt d_X7_sizes_45 (fun c45 => ?_) (fun c45 => absurd k40 c45)
                  refine g_aload_n d_X7_sizes_51 rfl ?_
                  refine g_iload_n d_X7_sizes_52 rfl ?_
                  refine g_iload_n d_X7_sizes_53 rfl ?_
                  refine g_iload d_X7_sizes_54 rfl ?_
                  refine h_V3i d_X7_sizes_56 cl_7_240 (ha _) sp_M (by decide) rfl (Nat.le_of_ble_eq_true rfl) (by decide) ?_
                  refine w_istore (L' := [_, _, _, _, _, _, _, _]) d_X7_sizes_59 rfl rfl rfl ?_
                  refine g_iload d_X7_sizes_61 rfl ?_
                  refine g_if_eq d_X7_sizes_63 (fun c63 => absurd c63 (by decide)) (fun c63 => ?_)
                  refine g_iload d_X7_sizes_66 rfl ?_
                  refine h_iret d_X7_sizes_68 rfl ?_
                  exact ⟨rfl, _, _, rfl, hR.stat 1⟩
                · exfalso
                  simp only [b2i_eq0, b2i_ne0, Int32.lt_iff_toInt_lt, Int32.le_iff_toInt_le, t_0, t_1, t_2, t_3, t_4, t_5, t_6, t_7, t_8, t_9, t_10, t_11, t_12, t_20, t_24, t_40, t_50, t_60, t_99, t_110, t_255, t_999, t_999999, t_m1, el, eq, en, gM, gN, eM, eN, eM1, eN1] at *
                  omega
          · refine g_aload_n d_X6_sizes_46 rfl ?_
            refine h_getR d_X6_sizes_47 fl_6_10 sp_L rfl ?_
            refine g_iload_n d_X6_sizes_50 rfl ?_
            refine g_iload_n d_X6_sizes_51 rfl ?_
            refine g_iload d_X6_sizes_52 rfl ?_
            refine h_V3i d_X6_sizes_54 cl_6_78 hc sp_Rows (by decide) rfl (Nat.le_of_ble_eq_true rfl) (by decide) ?_
            refine w_istore (L' := [_, _, _, _, _, _, _, _, _]) d_X6_sizes_57 rfl rfl rfl ?_
            refine g_iload d_X6_sizes_59 rfl ?_
            refine g_if_eq d_X6_sizes_61 (fun c61 => absurd c61 (by decide)) (fun c61 => ?_)
            refine g_aload_n d_X6_sizes_64 rfl ?_
            refine g_iload d_X6_sizes_65 rfl ?_
            refine h_V1i d_X6_sizes_67 cl_6_67 m6_found sp_L (by decide) rfl (Nat.le_of_ble_eq_true rfl) (by decide) ?_
            refine h_iret d_X6_sizes_70 rfl ?_
            refine ⟨_, rfl, ?_⟩
            rw [mu_hset (by decide)]
            refine MtH.of [some (.ref 360), some (.int (nI l)), some (.int (nI q)), some (.int s), some (.int (nI n)), none, none, none] pl_X7 rfl rfl ?_
            refine g_aload_n d_X7_sizes_0 rfl ?_
            refine g_iconst d_X7_sizes_1 ik_0 ?_
            refine mm_putI d_X7_sizes_2 fl_7_62 sp_M rfl ?_
            refine g_aload_n d_X7_sizes_5 rfl ?_
            refine g_iload_n d_X7_sizes_6 rfl ?_
            refine h_V1i d_X7_sizes_7 cl_7_204 (m7_isLoad ((hs_j (by decide)).trans wN)) sp_M (by decide) rfl (Nat.le_of_ble_eq_true rfl) (by decide) ?_
            refine g_if_eq d_X7_sizes_10 (fun c10 => ?_) (fun c10 => ?_)
            · exfalso
              simp only [b2i_eq0, b2i_ne0, Int32.lt_iff_toInt_lt, Int32.le_iff_toInt_le, t_0, t_1, t_2, t_3, t_4, t_5, t_6, t_7, t_8, t_9, t_10, t_11, t_12, t_20, t_24, t_40, t_50, t_60, t_99, t_110, t_255, t_999, t_999999, t_m1, el, eq, en, gM, gN, eM, eN, eM1, eN1] at *
              omega
            · refine g_iload_n d_X7_sizes_13 rfl ?_
              refine h_S1i d_X7_sizes_14 cl_7_74 m7_isRow (Nat.le_of_ble_eq_true rfl) (by decide) ?_
              refine g_if_eq d_X7_sizes_17 (fun c17 => ?_) (fun c17 => ?_)
              · exfalso
                simp only [b2i_eq0, b2i_ne0, Int32.lt_iff_toInt_lt, Int32.le_iff_toInt_le, t_0, t_1, t_2, t_3, t_4, t_5, t_6, t_7, t_8, t_9, t_10, t_11, t_12, t_20, t_24, t_40, t_50, t_60, t_99, t_110, t_255, t_999, t_999999, t_m1, el, eq, en, gM, gN, eM, eN, eM1, eN1] at *
                omega
              · refine g_iload d_X7_sizes_20 rfl ?_
                refine g_iconst d_X7_sizes_22 ik_1 ?_
                refine g_bipush d_X7_sizes_23 bk_12 ?_
                refine h_S3i d_X7_sizes_25 cl_7_70 m7_in (Nat.le_of_ble_eq_true rfl) (by decide) ?_
                refine g_if_ne d_X7_sizes_28 (fun c28 => ?_) (fun c28 => ?_)
                · refine g_aload_n d_X7_sizes_34 rfl ?_
                  refine h_getR d_X7_sizes_35 fl_7_31 sp_M rfl ?_
                  refine g_bipush d_X7_sizes_38 bk_30 ?_
                  refine g_iload_n d_X7_sizes_40 rfl ?_
                  refine g_iadd d_X7_sizes_41 ?_
                  refine mm_aldV (k := (30 + l)) (v := hv h 15 9 l) d_X7_sizes_42 (j := 8) sp_m_s rfl (by decide) (nAdd rfl rfl) (by omega) (by decide) ((hs_j (by decide)).trans (hS.2.1.2.2 l hl).2.2.1.symm) ?_
                  refine g_bipush d_X7_sizes_43 bk_10 ?_
                  refine g_icmp_lt d_X7_sizes_45 (fun c45 => ?_) (fun c45 => absurd k40 c45)
                  refine g_aload_n d_X7_sizes_51 rfl ?_
                  refine g_iload_n d_X7_sizes_52 rfl ?_
                  refine g_iload_n d_X7_sizes_53 rfl ?_
                  refine g_iload d_X7_sizes_54 rfl ?_
                  refine h_V3i d_X7_sizes_56 cl_7_240 (ha _) sp_M (by decide) rfl (Nat.le_of_ble_eq_true rfl) (by decide) ?_
                  refine w_istore (L' := [_, _, _, _, _, _, _, _]) d_X7_sizes_59 rfl rfl rfl ?_
                  refine g_iload d_X7_sizes_61 rfl ?_
                  refine g_if_eq d_X7_sizes_63 (fun c63 => absurd c63 (by decide)) (fun c63 => ?_)
                  refine g_iload d_X7_sizes_66 rfl ?_
                  refine h_iret d_X7_sizes_68 rfl ?_
                  exact ⟨rfl, _, _, rfl, hR.stat 2⟩
                · exfalso
                  simp only [b2i_eq0, b2i_ne0, Int32.lt_iff_toInt_lt, Int32.le_iff_toInt_le, t_0, t_1, t_2, t_3, t_4, t_5, t_6, t_7, t_8, t_9, t_10, t_11, t_12, t_20, t_24, t_40, t_50, t_60, t_99, t_110, t_255, t_999, t_999999, t_m1, el, eq, en, gM, gN, eM, eN, eM1, eN1] at *
                  omega
          · refine g_aload_n d_X6_sizes_46 rfl ?_
            refine h_getR d_X6_sizes_47 fl_6_10 sp_L rfl ?_
            refine g_iload_n d_X6_sizes_50 rfl ?_
            refine g_iload_n d_X6_sizes_51 rfl ?_
            refine g_iload d_X6_sizes_52 rfl ?_
            refine h_V3i d_X6_sizes_54 cl_6_78 hc sp_Rows (by decide) rfl (Nat.le_of_ble_eq_true rfl) (by decide) ?_
            refine w_istore (L' := [_, _, _, _, _, _, _, _, _]) d_X6_sizes_57 rfl rfl rfl ?_
            refine g_iload d_X6_sizes_59 rfl ?_
            refine g_if_eq d_X6_sizes_61 (fun c61 => ?_) (fun c61 => absurd rfl c61)
            refine g_iconst d_X6_sizes_71 ik_0 ?_
            refine w_istore (L' := [_, _, _, _, _, _, _, _, _]) d_X6_sizes_72 rfl rfl rfl ?_
            refine g_iconst d_X6_sizes_74 ik_1 ?_
            refine w_istore (L' := [_, _, _, _, _, _, _, _, _]) d_X6_sizes_75 rfl rfl rfl ?_
            rw [show mu h w = pu (mu h w) 27 (hv (mu h w) 27) from pu_hv.symm]
            refine h_weaken (lp_sizes6 (h := h) (w := w) (n := n) (row := fun t => w 1 (40 * q + i0 + t)) hI hl hq hi0 (by omega) hrow 9 1 rfl (by omega) _ _ _) ?_
            intro v' h' hp
            obtain ⟨rfl, g', rfl⟩ := hp
            refine ⟨_, rfl, ?_⟩
            rw [mu_pu (by decide), mu_hset (by decide)]
            refine MtH.of [some (.ref 360), some (.int (nI l)), some (.int (nI q)), some (.int (nI i0)), some (.int (nI n)), none, none, none] pl_X7 rfl rfl ?_
            refine g_aload_n d_X7_sizes_0 rfl ?_
            refine g_iconst d_X7_sizes_1 ik_0 ?_
            refine mm_putI d_X7_sizes_2 fl_7_62 sp_M rfl ?_
            refine g_aload_n d_X7_sizes_5 rfl ?_
            refine g_iload_n d_X7_sizes_6 rfl ?_
            refine h_V1i d_X7_sizes_7 cl_7_204 (m7_isLoad ((hs_j (by decide)).trans wN)) sp_M (by decide) rfl (Nat.le_of_ble_eq_true rfl) (by decide) ?_
            refine g_if_eq d_X7_sizes_10 (fun c10 => ?_) (fun c10 => ?_)
            · exfalso
              simp only [b2i_eq0, b2i_ne0, Int32.lt_iff_toInt_lt, Int32.le_iff_toInt_le, t_0, t_1, t_2, t_3, t_4, t_5, t_6, t_7, t_8, t_9, t_10, t_11, t_12, t_20, t_24, t_40, t_50, t_60, t_99, t_110, t_255, t_999, t_999999, t_m1, el, eq, en, gM, gN, eM, eN, eM1, eN1] at *
              omega
            · refine g_iload_n d_X7_sizes_13 rfl ?_
              refine h_S1i d_X7_sizes_14 cl_7_74 m7_isRow (Nat.le_of_ble_eq_true rfl) (by decide) ?_
              refine g_if_eq d_X7_sizes_17 (fun c17 => ?_) (fun c17 => ?_)
              · exfalso
                simp only [b2i_eq0, b2i_ne0, Int32.lt_iff_toInt_lt, Int32.le_iff_toInt_le, t_0, t_1, t_2, t_3, t_4, t_5, t_6, t_7, t_8, t_9, t_10, t_11, t_12, t_20, t_24, t_40, t_50, t_60, t_99, t_110, t_255, t_999, t_999999, t_m1, el, eq, en, gM, gN, eM, eN, eM1, eN1] at *
                omega
              · refine g_iload d_X7_sizes_20 rfl ?_
                refine g_iconst d_X7_sizes_22 ik_1 ?_
                refine g_bipush d_X7_sizes_23 bk_12 ?_
                refine h_S3i d_X7_sizes_25 cl_7_70 m7_in (Nat.le_of_ble_eq_true rfl) (by decide) ?_
                refine g_if_ne d_X7_sizes_28 (fun c28 => ?_) (fun c28 => ?_)
                · refine g_aload_n d_X7_sizes_34 rfl ?_
                  refine h_getR d_X7_sizes_35 fl_7_31 sp_M rfl ?_
                  refine g_bipush d_X7_sizes_38 bk_30 ?_
                  refine g_iload_n d_X7_sizes_40 rfl ?_
                  refine g_iadd d_X7_sizes_41 ?_
                  refine mm_aldV (k := (30 + l)) (v := hv h 15 9 l) d_X7_sizes_42 (j := 8) sp_m_s rfl (by decide) (nAdd rfl rfl) (by omega) (by decide) ((hs_j (by decide)).trans (hS.2.1.2.2 l hl).2.2.1.symm) ?_
                  refine g_bipush d_X7_sizes_43 bk_10 ?_
                  refine g_icmp_lt d_X7_sizes_45 (fun c45 => ?_) (fun c45 => absurd k40 c45)
                  refine g_aload_n d_X7_sizes_51 rfl ?_
                  refine g_iload_n d_X7_sizes_52 rfl ?_
                  refine g_iload_n d_X7_sizes_53 rfl ?_
                  refine g_iload d_X7_sizes_54 rfl ?_
                  refine h_V3i d_X7_sizes_56 cl_7_240 (ha _) sp_M (by decide) rfl (Nat.le_of_ble_eq_true rfl) (by decide) ?_
                  refine w_istore (L' := [_, _, _, _, _, _, _, _]) d_X7_sizes_59 rfl rfl rfl ?_
                  refine g_iload d_X7_sizes_61 rfl ?_
                  refine g_if_eq d_X7_sizes_63 (fun c63 => ?_) (fun c63 => absurd rfl c63)
                  refine g_iconst d_X7_sizes_69 ik_0 ?_
                  refine w_istore (L' := [_, _, _, _, _, _, _, _]) d_X7_sizes_70 rfl rfl rfl ?_
                  refine g_iconst d_X7_sizes_72 ik_1 ?_
                  refine w_istore (L' := [_, _, _, _, _, _, _, _]) d_X7_sizes_73 rfl rfl rfl ?_
                  refine h_weaken (lp_sizes7 (w := hset w 0 0 0) (row := fun t => w 1 (40 * q + i0 + t)) hI ((hs_j (by decide)).trans wN) (hS.2.1.th hM5 hN6) hS.2.2.1.1 hl hq hi0 (by omega) (fun t _ => hs_j (by decide)) 9 1 rfl (by omega) _ _ FrS.rf) ?_
                  intro v' h' hp
                  obtain ⟨rfl, w3, rfl, hf3⟩ := hp
                  exact ⟨rfl, _, _, rfl, ((hR.fc fc_27).fr (fr_thrown.tr hf3.fr)).stat2 0⟩
                · exfalso
                  simp only [b2i_eq0, b2i_ne0, Int32.lt_iff_toInt_lt, Int32.le_iff_toInt_le, t_0, t_1, t_2, t_3, t_4, t_5, t_6, t_7, t_8, t_9, t_10, t_11, t_12, t_20, t_24, t_40, t_50, t_60, t_99, t_110, t_255, t_999, t_999999, t_m1, el, eq, en, gM, gN, eM, eN, eM1, eN1] at *
                  omega
        · refine g_ldc d_X6_sizes_43 kc_X6_141 ?_
          refine h_iret d_X6_sizes_45 rfl ?_
          refine ⟨_, rfl, ?_⟩
          refine MtH.of [some (.ref 360), some (.int (nI l)), some (.int (nI q)), some (.int s), some (.int (nI n)), none, none, none] pl_X7 rfl rfl ?_
          refine g_aload_n d_X7_sizes_0 rfl ?_
          refine g_iconst d_X7_sizes_1 ik_0 ?_
          refine mm_putI d_X7_sizes_2 fl_7_62 sp_M rfl ?_
          refine g_aload_n d_X7_sizes_5 rfl ?_
          refine g_iload_n d_X7_sizes_6 rfl ?_
          refine h_V1i d_X7_sizes_7 cl_7_204 (m7_isLoad ((hs_j (by decide)).trans wN)) sp_M (by decide) rfl (Nat.le_of_ble_eq_true rfl) (by decide) ?_
          refine g_if_eq d_X7_sizes_10 (fun c10 => ?_) (fun c10 => ?_)
          · exfalso
            simp only [b2i_eq0, b2i_ne0, Int32.lt_iff_toInt_lt, Int32.le_iff_toInt_le, t_0, t_1, t_2, t_3, t_4, t_5, t_6, t_7, t_8, t_9, t_10, t_11, t_12, t_20, t_24, t_40, t_50, t_60, t_99, t_110, t_255, t_999, t_999999, t_m1, el, eq, en, gM, gN, eM, eN, eM1, eN1] at *
            omega
          · refine g_iload_n d_X7_sizes_13 rfl ?_
            refine h_S1i d_X7_sizes_14 cl_7_74 m7_isRow (Nat.le_of_ble_eq_true rfl) (by decide) ?_
            refine g_if_eq d_X7_sizes_17 (fun c17 => ?_) (fun c17 => ?_)
            · exfalso
              simp only [b2i_eq0, b2i_ne0, Int32.lt_iff_toInt_lt, Int32.le_iff_toInt_le, t_0, t_1, t_2, t_3, t_4, t_5, t_6, t_7, t_8, t_9, t_10, t_11, t_12, t_20, t_24, t_40, t_50, t_60, t_99, t_110, t_255, t_999, t_999999, t_m1, el, eq, en, gM, gN, eM, eN, eM1, eN1] at *
              omega
            · refine g_iload d_X7_sizes_20 rfl ?_
              refine g_iconst d_X7_sizes_22 ik_1 ?_
              refine g_bipush d_X7_sizes_23 bk_12 ?_
              refine h_S3i d_X7_sizes_25 cl_7_70 m7_in (Nat.le_of_ble_eq_true rfl) (by decide) ?_
              refine g_if_ne d_X7_sizes_28 (fun c28 => ?_) (fun c28 => ?_)
              · refine g_aload_n d_X7_sizes_34 rfl ?_
                refine h_getR d_X7_sizes_35 fl_7_31 sp_M rfl ?_
                refine g_bipush d_X7_sizes_38 bk_30 ?_
                refine g_iload_n d_X7_sizes_40 rfl ?_
                refine g_iadd d_X7_sizes_41 ?_
                refine mm_aldV (k := (30 + l)) (v := hv h 15 9 l) d_X7_sizes_42 (j := 8) sp_m_s rfl (by decide) (nAdd rfl rfl) (by omega) (by decide) ((hs_j (by decide)).trans (hS.2.1.2.2 l hl).2.2.1.symm) ?_
                refine g_bipush d_X7_sizes_43 bk_10 ?_
                refine g_icmp_lt d_X7_sizes_45 (fun c45 => absurd c45 c40) (fun c45 => ?_)
                refine g_ldc d_X7_sizes_48 kc_X7_194 ?_
                refine h_iret d_X7_sizes_50 rfl ?_
                exact ⟨rfl, _, _, rfl, hR.fr fr_thrown⟩
              · exfalso
                simp only [b2i_eq0, b2i_ne0, Int32.lt_iff_toInt_lt, Int32.le_iff_toInt_le, t_0, t_1, t_2, t_3, t_4, t_5, t_6, t_7, t_8, t_9, t_10, t_11, t_12, t_20, t_24, t_40, t_50, t_60, t_99, t_110, t_255, t_999, t_999999, t_m1, el, eq, en, gM, gN, eM, eN, eM1, eN1] at *
                omega
      · refine g_ldc d_X6_sizes_26 kc_X6_66 ?_
        refine h_iret d_X6_sizes_28 rfl ?_
        refine ⟨_, rfl, ?_⟩
        refine MtH.of [some (.ref 360), some (.int x), some (.int u), some (.int s), some (.int z), none, none, none] pl_X7 rfl rfl ?_
        refine g_aload_n d_X7_sizes_0 rfl ?_
        refine g_iconst d_X7_sizes_1 ik_0 ?_
        refine mm_putI d_X7_sizes_2 fl_7_62 sp_M rfl ?_
        refine g_aload_n d_X7_sizes_5 rfl ?_
        refine g_iload_n d_X7_sizes_6 rfl ?_
        refine h_V1i d_X7_sizes_7 cl_7_204 (m7_isLoad ((hs_j (by decide)).trans wN)) sp_M (by decide) rfl (Nat.le_of_ble_eq_true rfl) (by decide) ?_
        refine g_if_eq d_X7_sizes_10 (fun c10 => ?_) (fun c10 => ?_)
        · refine g_ldc d_X7_sizes_31 kc_X7_78 ?_
          refine h_iret d_X7_sizes_33 rfl ?_
          exact ⟨rfl, _, _, rfl, hR.fr fr_thrown⟩
        · refine g_iload_n d_X7_sizes_13 rfl ?_
          refine h_S1i d_X7_sizes_14 cl_7_74 m7_isRow (Nat.le_of_ble_eq_true rfl) (by decide) ?_
          refine g_if_eq d_X7_sizes_17 (fun c17 => ?_) (fun c17 => ?_)
          · refine g_ldc d_X7_sizes_31 kc_X7_78 ?_
            refine h_iret d_X7_sizes_33 rfl ?_
            exact ⟨rfl, _, _, rfl, hR.fr fr_thrown⟩
          · refine g_iload d_X7_sizes_20 rfl ?_
            refine g_iconst d_X7_sizes_22 ik_1 ?_
            refine g_bipush d_X7_sizes_23 bk_12 ?_
            refine h_S3i d_X7_sizes_25 cl_7_70 m7_in (Nat.le_of_ble_eq_true rfl) (by decide) ?_
            refine g_if_ne d_X7_sizes_28 (fun c28 => ?_) (fun c28 => ?_)
            · exfalso
              simp only [b2i_eq0, b2i_ne0, Int32.lt_iff_toInt_lt, Int32.le_iff_toInt_le, t_0, t_1, t_2, t_3, t_4, t_5, t_6, t_7, t_8, t_9, t_10, t_11, t_12, t_20, t_24, t_40, t_50, t_60, t_99, t_110, t_255, t_999, t_999999, t_m1, gM, gN, eM, eN, eM1, eN1] at *
              omega
            · refine g_ldc d_X7_sizes_31 kc_X7_78 ?_
              refine h_iret d_X7_sizes_33 rfl ?_
              exact ⟨rfl, _, _, rfl, hR.fr fr_thrown⟩
