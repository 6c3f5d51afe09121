/-! THE TAPE: the reference reads -/
theorem pPass_e {b : Nat → Nat} {L c p : Nat} {e : Nat × Nat} (h : pPass b L c p = .error e) : e = (1, p) := by
  unfold pPass at h
  split at h
  · cases h
  · cases h; rfl
theorem m7_isWell {h w : Hv} {v : Int32} (hv : w 0 11 = v) : MtF M_X7_isWell 0 [.ref 360] (mu h w) (some (.int (b2i (v = 0)))) (mu h w) := by
  refine MtF.of [some (.ref 360)] pl_X7 rfl rfl ?_
  refine g_aload_n d_X7_isWell_0 rfl ?_
  refine mm_getV (v := v) d_X7_isWell_1 fl_7_108 sp_M rfl (hv) ?_
  refine g_if_ne d_X7_isWell_4 (fun c4 => ?_) (fun c4 => ?_)
  · refine g_iconst d_X7_isWell_11 ik_0 ?_
    refine h_zret d_X7_isWell_12 rfl rfl ?_
    exact pF (by simp [b2i, *]) rfl
  · refine g_iconst d_X7_isWell_7 ik_1 ?_
    refine g_goto d_X7_isWell_8 ?_
    refine h_zret d_X7_isWell_12 rfl rfl ?_
    exact pF (by simp [b2i, *]) rfl
theorem m7_faulty {h w : Hv} {k v : Int32} (h0 : w 0 11 = 0) (h8 : w 0 8 = v) : MtF M_X7_faulty 1 [.ref 360, .int k] (mu h w) (none) (mu h (hset (hset w 0 11 k) 0 12 v)) := by
  refine MtF.of [some (.ref 360), some (.int k)] pl_X7 rfl rfl ?_
  refine g_aload_n d_X7_faulty_0 rfl ?_
  refine h_V0i d_X7_faulty_1 cl_7_111 (m7_isWell h0) sp_M (by decide) rfl (Nat.le_of_ble_eq_true rfl) (by decide) ?_
  refine g_if_eq d_X7_faulty_4 (fun c4 => absurd c4 (by decide)) (fun c4 => ?_)
  refine g_aload_n d_X7_faulty_7 rfl ?_
  refine g_iload_n d_X7_faulty_8 rfl ?_
  refine mm_putI d_X7_faulty_9 fl_7_108 sp_M rfl ?_
  refine g_aload_n d_X7_faulty_12 rfl ?_
  refine g_aload_n d_X7_faulty_13 rfl ?_
  refine mm_getV (v := v) d_X7_faulty_14 fl_7_96 sp_M rfl ((hs_b (by decide)).trans h8) ?_
  refine mm_putI d_X7_faulty_17 fl_7_115 sp_M rfl ?_
  refine h_vret d_X7_faulty_20 rfl ?_
  exact ⟨rfl, rfl⟩
theorem RS.fx {b : Nat → Nat} {L p : Nat} {w : Hv} (rs : RS b L w p) {k : Nat} : RB b L (hset (hset w 0 11 (nI k)) 0 12 (nI p)) ∧ hset (hset w 0 11 (nI k)) 0 12 (nI p) 0 7 = nI (tkQ b L p) := by
  obtain ⟨⟨a1, a2, a3⟩, -, -, c4, -⟩ := rs
  exact ⟨⟨by rw [hs_b (by decide), hs_b (by decide)]; exact a1, a2, fun k hk => by rw [hs_j (by decide), hs_j (by decide)]; exact a3 k hk⟩, by rw [hs_b (by decide), hs_b (by decide)]; exact c4⟩
theorem fx_of {w w' : Hv} {k p : Nat} (hk : 0 < k ∧ k < 4) (f : FrW (hset (hset w 0 11 (nI k)) 0 12 (nI p)) w') : FX w w' (k, p) := by
  refine ⟨fun x y h => (f x y (by omega)).trans (by rw [hs_ne (by omega), hs_ne (by omega)]), ?_, ?_, hk⟩
  · rw [f 0 11 (by omega), hs_b (by decide), hs_at]
  · rw [f 0 12 (by omega), hs_at]
theorem m7_takes {b : Nat → Nat} {L p : Nat} {h w : Hv} (rs : RS b L w p) (h0 : w 0 11 = 0) {t c : Nat} (htc : (t = 1 ∧ c = 108) ∨ (t = 3 ∧ (c = 44 ∨ c = 59))) : MtH M_X7_takes 2 [.ref 360, .int (nI t), .int (nI c)] (mu h w) (fun v' h' => v' = none ∧ ∃ w', h' = mu h w' ∧ (match pPass b L c p with | .ok q => FrW w w' ∧ RS b L w' q | .error e => FX w w' e)) := by
  have hC := tkC_lt (p := p) (fun k hk => (rs.1.2.2 k hk).2)
  have ht7 := tk7_lt (tkC b L p)
  refine MtH.of [some (.ref 360), some (.int (nI t)), some (.int (nI c))] pl_X7 rfl rfl ?_
  by_cases hq : tkC b L p = c
  · have h7 : tk7 (tkC b L p) = t := by
      rcases htc with ⟨z1, z2⟩ | ⟨z1, z2⟩
      · rw [hq, z2, z1]; exact tk7_1.mpr (by decide)
      · rw [hq, z1]; exact tk7_3.mpr z2
    rw [show pPass b L c p = .ok (tkQ b L p) from if_pos hq]
    refine g_aload_n d_X7_takes_0 rfl ?_
    refine h_V0i d_X7_takes_1 cl_7_111 (m7_isWell h0) sp_M (by decide) rfl (Nat.le_of_ble_eq_true rfl) (by decide) ?_
    refine g_if_eq d_X7_takes_4 (fun c4 => absurd c4 (by decide)) (fun c4 => ?_)
    refine g_aload_n d_X7_takes_7 rfl ?_
    refine mm_getV (v := nI (tk7 (tkC b L p))) d_X7_takes_8 fl_7_105 sp_M rfl (rs.2.2.2.2.1) ?_
    refine g_iload_n d_X7_takes_11 rfl ?_
    refine g_icmp_ne d_X7_takes_12 (fun c12 => absurd (show nI (tk7 (tkC b L p)) = nI t by rw [h7]) c12) (fun c12 => ?_)
    refine g_aload_n d_X7_takes_15 rfl ?_
    refine mm_getV (v := nI c) d_X7_takes_16 fl_7_102 sp_M rfl ((rs.2.2.2.2.2.2 (by omega)).trans (by rw [hq])) ?_
    refine g_iload_n d_X7_takes_19 rfl ?_
    refine g_icmp_eq d_X7_takes_20 (fun c20 => ?_) (fun c20 => absurd rfl c20)
    refine g_aload_n d_X7_takes_28 rfl ?_
    refine h_V0P d_X7_takes_29 cl_7_122 (m7_advances rs.1 (tkQ_le rs.2.1) rs.2.2.2.1) sp_M (by decide) rfl (Nat.le_of_ble_eq_true rfl) (by decide) ?_
    intro v' h' hp
    obtain ⟨rfl, w1, rfl, f1, r1⟩ := hp
    refine h_vret d_X7_takes_32 rfl ?_
    exact ⟨rfl, w1, rfl, f1, r1⟩
  · rw [show pPass b L c p = .error (1, p) from if_neg hq]
    refine g_aload_n d_X7_takes_0 rfl ?_
    refine h_V0i d_X7_takes_1 cl_7_111 (m7_isWell h0) sp_M (by decide) rfl (Nat.le_of_ble_eq_true rfl) (by decide) ?_
    refine g_if_eq d_X7_takes_4 (fun c4 => absurd c4 (by decide)) (fun c4 => ?_)
    refine g_aload_n d_X7_takes_7 rfl ?_
    refine mm_getV (v := nI (tk7 (tkC b L p))) d_X7_takes_8 fl_7_105 sp_M rfl (rs.2.2.2.2.1) ?_
    refine g_iload_n d_X7_takes_11 rfl ?_
    refine g_icmp_ne d_X7_takes_12 (fun c12 => ?_) (fun c12 => ?_)
    · refine g_aload_n d_X7_takes_23 rfl ?_
      refine g_iconst d_X7_takes_24 ik_1 ?_
      refine h_V1v d_X7_takes_25 cl_7_118 (m7_faulty h0 rs.2.2.1) sp_M (by decide) rfl (Nat.le_of_ble_eq_true rfl) (by decide) ?_
      refine g_aload_n d_X7_takes_28 rfl ?_
      refine h_V0P d_X7_takes_29 cl_7_122 (m7_advances (rs.fx (k := 1)).1 (tkQ_le rs.2.1) (rs.fx (k := 1)).2) sp_M (by decide) rfl (Nat.le_of_ble_eq_true rfl) (by decide) ?_
      intro v' h' hp
      obtain ⟨rfl, w1, rfl, f1, r1⟩ := hp
      refine h_vret d_X7_takes_32 rfl ?_
      exact ⟨rfl, w1, rfl, fx_of (by omega) f1⟩
    · refine g_aload_n d_X7_takes_15 rfl ?_
      refine mm_getI d_X7_takes_16 fl_7_102 sp_M rfl ?_
      refine g_iload_n d_X7_takes_19 rfl ?_
      refine g_icmp_eq d_X7_takes_20 (fun c20 => ?_) (fun c20 => ?_)
      · exfalso
        have z1 := nI_inj c12 (by omega) (by omega)
        have hlt : tkC b L p < 256 := by
          rcases htc with ⟨y1, y2⟩ | ⟨y1, y2⟩
          · rw [y1] at z1; have := tk7_1.mp z1; omega
          · rw [y1] at z1; have := tk7_3.mp z1; omega
        rw [rs.2.2.2.2.2.2 hlt] at c20
        exact hq (nI_inj c20 (by omega) (by omega))
      · refine g_aload_n d_X7_takes_23 rfl ?_
        refine g_iconst d_X7_takes_24 ik_1 ?_
        refine h_V1v d_X7_takes_25 cl_7_118 (m7_faulty h0 rs.2.2.1) sp_M (by decide) rfl (Nat.le_of_ble_eq_true rfl) (by decide) ?_
        refine g_aload_n d_X7_takes_28 rfl ?_
        refine h_V0P d_X7_takes_29 cl_7_122 (m7_advances (rs.fx (k := 1)).1 (tkQ_le rs.2.1) (rs.fx (k := 1)).2) sp_M (by decide) rfl (Nat.le_of_ble_eq_true rfl) (by decide) ?_
        intro v' h' hp
        obtain ⟨rfl, w1, rfl, f1, r1⟩ := hp
        refine h_vret d_X7_takes_32 rfl ?_
        exact ⟨rfl, w1, rfl, fx_of (by omega) f1⟩
theorem m7_takesX {h w : Hv} {k : Nat} (hk : 0 < k ∧ k < 4) (h11 : w 0 11 = nI k) {t c : Int32} : MtF M_X7_takes 2 [.ref 360, .int t, .int c] (mu h w) (none) (mu h w) := by
  refine MtF.of [some (.ref 360), some (.int t), some (.int c)] pl_X7 rfl rfl ?_
  refine g_aload_n d_X7_takes_0 rfl ?_
  refine h_V0i d_X7_takes_1 cl_7_111 (m7_isWell h11) sp_M (by decide) rfl (Nat.le_of_ble_eq_true rfl) (by decide) ?_
  refine g_if_eq d_X7_takes_4 (fun c4 => ?_) (fun c4 => absurd (b2i_f (nI_ne0 hk.1 (by omega))) c4)
  refine h_vret d_X7_takes_32 rfl ?_
  exact ⟨rfl, rfl⟩
theorem m7_numberX {h w : Hv} {k : Nat} (hk : 0 < k ∧ k < 4) (h11 : w 0 11 = nI k) {t c : Int32} : MtF M_X7_number 2 [.ref 360, .int t, .int c] (mu h w) (some (.int 0)) (mu h w) := by
  refine MtF.of [some (.ref 360), some (.int t), some (.int c), none] pl_X7 rfl rfl ?_
  refine g_aload_n d_X7_number_0 rfl ?_
  refine h_V0i d_X7_number_1 cl_7_111 (m7_isWell h11) sp_M (by decide) rfl (Nat.le_of_ble_eq_true rfl) (by decide) ?_
  refine g_if_ne d_X7_number_4 (fun c4 => absurd (b2i_f (nI_ne0 hk.1 (by omega))) c4) (fun c4 => ?_)
  refine g_iconst d_X7_number_7 ik_0 ?_
  refine h_iret d_X7_number_8 rfl ?_
  exact ⟨rfl, rfl⟩
theorem m7_number {b : Nat → Nat} {L p : Nat} {h w : Hv} (rs : RS b L w p) (h0 : w 0 11 = 0) {lo hi : Nat} (hlo : lo < 100) (hhi : hi < 100) : MtH M_X7_number 2 [.ref 360, .int (nI lo), .int (nI hi)] (mu h w) (fun v' h' => match pNum b L lo hi p with | .ok (v, q) => v' = some (.int (nI v)) ∧ ∃ w', h' = mu h w' ∧ FrW w w' ∧ RS b L w' q | .error e => ∃ r w', v' = some (.int r) ∧ h' = mu h w' ∧ FX w w' e) := by
  have hC := tkC_lt (p := p) (fun k hk => (rs.1.2.2 k hk).2)
  have ht7 := tk7_lt (tkC b L p)
  refine MtH.of [some (.ref 360), some (.int (nI lo)), some (.int (nI hi)), none] pl_X7 rfl rfl ?_
  by_cases hq : tkC b L p = 256
  · have hV := tkV_le hq (fun k hk => (rs.1.2.2 k hk).2)
    have eV : (nI (tkV b L p)).toInt = tkV b L p := nI_toInt (by omega)
    have elo : (nI lo).toInt = lo := nI_toInt (by omega)
    have ehi : (nI hi).toInt = hi := nI_toInt (by omega)
    by_cases hr : lo ≤ tkV b L p ∧ tkV b L p ≤ hi
    · rw [show pNum b L lo hi p = .ok (tkV b L p, tkQ b L p) from (if_pos hq).trans (if_pos hr)]
      refine g_aload_n d_X7_number_0 rfl ?_
      refine h_V0i d_X7_number_1 cl_7_111 (m7_isWell h0) sp_M (by decide) rfl (Nat.le_of_ble_eq_true rfl) (by decide) ?_
      refine g_if_ne d_X7_number_4 (fun c4 => ?_) (fun c4 => absurd c4 (by decide))
      refine g_aload_n d_X7_number_9 rfl ?_
      refine mm_getV (v := nI (tk7 (tkC b L p))) d_X7_number_10 fl_7_105 sp_M rfl (rs.2.2.2.2.1) ?_
      refine g_iconst d_X7_number_13 ik_2 ?_
      refine g_icmp_eq d_X7_number_14 (fun c14 => ?_) (fun c14 => absurd (show nI (tk7 (tkC b L p)) = 2 by rw [tk7_2.mpr hq]; rfl) c14)
      refine g_aload_n d_X7_number_25 rfl ?_
      refine mm_getV (v := nI (tkV b L p)) d_X7_number_26 fl_7_102 sp_M rfl (rs.2.2.2.2.2.1 hq) ?_
      refine g_iload_n d_X7_number_29 rfl ?_
      refine g_iload_n d_X7_number_30 rfl ?_
      refine h_S3i d_X7_number_31 cl_7_70 m7_in (Nat.le_of_ble_eq_true rfl) (by decide) ?_
      refine g_if_ne d_X7_number_34 (fun c34 => ?_) (fun c34 => absurd c34 (b2i_ne0.mpr (by simp only [Int32.lt_iff_toInt_lt, eV, elo, ehi]; omega)))
      refine g_aload_n d_X7_number_42 rfl ?_
      refine mm_getV (v := nI (tkV b L p)) d_X7_number_43 fl_7_102 sp_M rfl (rs.2.2.2.2.2.1 hq) ?_
      refine w_istore_n (L' := [_, _, _, _]) d_X7_number_46 rfl rfl rfl ?_
      refine g_aload_n d_X7_number_47 rfl ?_
      refine h_V0P d_X7_number_48 cl_7_122 (m7_advances rs.1 (tkQ_le rs.2.1) rs.2.2.2.1) sp_M (by decide) rfl (Nat.le_of_ble_eq_true rfl) (by decide) ?_
      intro v' h' hp
      obtain ⟨rfl, w1, rfl, f1, r1⟩ := hp
      refine g_iload_n d_X7_number_51 rfl ?_
      refine h_iret d_X7_number_52 rfl ?_
      exact ⟨rfl, w1, rfl, f1, r1⟩
    · rw [show pNum b L lo hi p = .error (2, p) from (if_pos hq).trans (if_neg hr)]
      refine g_aload_n d_X7_number_0 rfl ?_
      refine h_V0i d_X7_number_1 cl_7_111 (m7_isWell h0) sp_M (by decide) rfl (Nat.le_of_ble_eq_true rfl) (by decide) ?_
      refine g_if_ne d_X7_number_4 (fun c4 => ?_) (fun c4 => absurd c4 (by decide))
      refine g_aload_n d_X7_number_9 rfl ?_
      refine mm_getV (v := nI (tk7 (tkC b L p))) d_X7_number_10 fl_7_105 sp_M rfl (rs.2.2.2.2.1) ?_
      refine g_iconst d_X7_number_13 ik_2 ?_
      refine g_icmp_eq d_X7_number_14 (fun c14 => ?_) (fun c14 => absurd (show nI (tk7 (tkC b L p)) = 2 by rw [tk7_2.mpr hq]; rfl) c14)
      refine g_aload_n d_X7_number_25 rfl ?_
      refine mm_getV (v := nI (tkV b L p)) d_X7_number_26 fl_7_102 sp_M rfl (rs.2.2.2.2.2.1 hq) ?_
      refine g_iload_n d_X7_number_29 rfl ?_
      refine g_iload_n d_X7_number_30 rfl ?_
      refine h_S3i d_X7_number_31 cl_7_70 m7_in (Nat.le_of_ble_eq_true rfl) (by decide) ?_
      refine g_if_ne d_X7_number_34 (fun c34 => absurd (b2i_f (by simp only [Int32.lt_iff_toInt_lt, eV, elo, ehi]; omega)) c34) (fun c34 => ?_)
      refine g_aload_n d_X7_number_37 rfl ?_
      refine g_iconst d_X7_number_38 ik_2 ?_
      refine h_V1v d_X7_number_39 cl_7_118 (m7_faulty h0 rs.2.2.1) sp_M (by decide) rfl (Nat.le_of_ble_eq_true rfl) (by decide) ?_
      refine g_aload_n d_X7_number_42 rfl ?_
      refine mm_getI d_X7_number_43 fl_7_102 sp_M rfl ?_
      refine w_istore_n (L' := [_, _, _, _]) d_X7_number_46 rfl rfl rfl ?_
      refine g_aload_n d_X7_number_47 rfl ?_
      refine h_V0P d_X7_number_48 cl_7_122 (m7_advances (rs.fx (k := 2)).1 (tkQ_le rs.2.1) (rs.fx (k := 2)).2) sp_M (by decide) rfl (Nat.le_of_ble_eq_true rfl) (by decide) ?_
      intro v' h' hp
      obtain ⟨rfl, w1, rfl, f1, r1⟩ := hp
      refine g_iload_n d_X7_number_51 rfl ?_
      refine h_iret d_X7_number_52 rfl ?_
      exact ⟨_, w1, rfl, rfl, fx_of (by omega) f1⟩
  · rw [show pNum b L lo hi p = .error (1, p) from if_neg hq]
    refine g_aload_n d_X7_number_0 rfl ?_
    refine h_V0i d_X7_number_1 cl_7_111 (m7_isWell h0) sp_M (by decide) rfl (Nat.le_of_ble_eq_true rfl) (by decide) ?_
    refine g_if_ne d_X7_number_4 (fun c4 => ?_) (fun c4 => absurd c4 (by decide))
    refine g_aload_n d_X7_number_9 rfl ?_
    refine mm_getV (v := nI (tk7 (tkC b L p))) d_X7_number_10 fl_7_105 sp_M rfl (rs.2.2.2.2.1) ?_
    refine g_iconst d_X7_number_13 ik_2 ?_
    refine g_icmp_eq d_X7_number_14 (fun c14 => absurd c14 (fun z => hq (tk7_2.mp (nI_inj (b := 2) z (by omega) (by decide))))) (fun c14 => ?_)
    refine g_aload_n d_X7_number_17 rfl ?_
    refine g_iconst d_X7_number_18 ik_1 ?_
    refine h_V1v d_X7_number_19 cl_7_118 (m7_faulty h0 rs.2.2.1) sp_M (by decide) rfl (Nat.le_of_ble_eq_true rfl) (by decide) ?_
    refine g_goto d_X7_number_22 ?_
    refine g_aload_n d_X7_number_42 rfl ?_
    refine mm_getI d_X7_number_43 fl_7_102 sp_M rfl ?_
    refine w_istore_n (L' := [_, _, _, _]) d_X7_number_46 rfl rfl rfl ?_
    refine g_aload_n d_X7_number_47 rfl ?_
    refine h_V0P d_X7_number_48 cl_7_122 (m7_advances (rs.fx (k := 1)).1 (tkQ_le rs.2.1) (rs.fx (k := 1)).2) sp_M (by decide) rfl (Nat.le_of_ble_eq_true rfl) (by decide) ?_
    intro v' h' hp
    obtain ⟨rfl, w1, rfl, f1, r1⟩ := hp
    refine g_iload_n d_X7_number_51 rfl ?_
    refine h_iret d_X7_number_52 rfl ?_
    exact ⟨_, w1, rfl, rfl, fx_of (by omega) f1⟩
theorem m7_kindOf {H : Hv} {c : Nat} (hc : c < 259) : MtF M_X7_kindOf 0 [.int (nI c)] (H) (some (.int (nI (kindN c)))) (H) := by
  refine MtF.of [some (.int (nI c))] pl_X7 rfl rfl ?_
  refine g_iload_n d_X7_kindOf_0 rfl ?_
  refine g_bipush d_X7_kindOf_1 bk_119 ?_
  refine g_icmp_ne d_X7_kindOf_3 (fun c3 => ?_) (fun c3 => ?_)
  · refine g_iload_n d_X7_kindOf_10 rfl ?_
    refine g_bipush d_X7_kindOf_11 bk_113 ?_
    refine g_icmp_ne d_X7_kindOf_13 (fun c13 => ?_) (fun c13 => ?_)
    · refine g_iload_n d_X7_kindOf_20 rfl ?_
      refine g_bipush d_X7_kindOf_21 bk_103 ?_
      refine g_icmp_ne d_X7_kindOf_23 (fun c23 => ?_) (fun c23 => ?_)
      · refine g_iload_n d_X7_kindOf_30 rfl ?_
        refine g_bipush d_X7_kindOf_31 bk_100 ?_
        refine g_icmp_ne d_X7_kindOf_33 (fun c33 => ?_) (fun c33 => ?_)
        · refine g_iload_n d_X7_kindOf_40 rfl ?_
          refine g_bipush d_X7_kindOf_41 bk_115 ?_
          refine g_icmp_ne d_X7_kindOf_43 (fun c43 => ?_) (fun c43 => ?_)
          · refine g_iconst d_X7_kindOf_50 ik_0 ?_
            refine h_iret d_X7_kindOf_51 rfl ?_
            have hz : kindN c = 0 := by
              unfold kindN
              rw [if_neg (fun z => c3 (by rw [z]; rfl)), if_neg (fun z => c13 (by rw [z]; rfl)), if_neg (fun z => c23 (by rw [z]; rfl)), if_neg (fun z => c33 (by rw [z]; rfl)), if_neg (fun z => c43 (by rw [z]; rfl))]
            exact pF (by rw [hz]; rfl) rfl
          · refine g_iconst d_X7_kindOf_46 ik_5 ?_
            refine g_goto d_X7_kindOf_47 ?_
            refine h_iret d_X7_kindOf_51 rfl ?_
            have hz : c = 115 := nI_inj (b := 115) c43 (by omega) (by decide)
            subst hz
            exact pF rfl rfl
        · refine g_iconst d_X7_kindOf_36 ik_4 ?_
          refine g_goto d_X7_kindOf_37 ?_
          refine h_iret d_X7_kindOf_51 rfl ?_
          have hz : c = 100 := nI_inj (b := 100) c33 (by omega) (by decide)
          subst hz
          exact pF rfl rfl
      · refine g_iconst d_X7_kindOf_26 ik_3 ?_
        refine g_goto d_X7_kindOf_27 ?_
        refine h_iret d_X7_kindOf_51 rfl ?_
        have hz : c = 103 := nI_inj (b := 103) c23 (by omega) (by decide)
        subst hz
        exact pF rfl rfl
    · refine g_iconst d_X7_kindOf_16 ik_2 ?_
      refine g_goto d_X7_kindOf_17 ?_
      refine h_iret d_X7_kindOf_51 rfl ?_
      have hz : c = 113 := nI_inj (b := 113) c13 (by omega) (by decide)
      subst hz
      exact pF rfl rfl
  · refine g_iconst d_X7_kindOf_6 ik_1 ?_
    refine g_goto d_X7_kindOf_7 ?_
    refine h_iret d_X7_kindOf_51 rfl ?_
    have hz : c = 119 := nI_inj (b := 119) c3 (by omega) (by decide)
    subst hz
    exact pF rfl rfl
/-- what may change while the reference reads -/
def FrD (w w' : Hv) : Prop := ∀ x y, x ≠ 5 → x ≠ 6 → ¬ (x = 0 ∧ 7 ≤ y ∧ y ≤ 12) → w' x y = w x y
def FY (w w' : Hv) (e : Nat × Nat) : Prop := FrD w w' ∧ w' 0 11 = nI e.1 ∧ w' 0 12 = nI e.2 ∧ 0 < e.1 ∧ e.1 < 4
theorem FrD.rf {w : Hv} : FrD w w := fun _ _ _ _ _ => rfl
theorem FrD.tr {w w' w'' : Hv} (a : FrD w w') (b : FrD w' w'') : FrD w w'' := fun x y h k i => (b x y h k i).trans (a x y h k i)
theorem FrD.set {w w' : Hv} {j y : Nat} {v : Int32} (a : FrD w w') (hj : j = 5 ∨ j = 6) : FrD w (hset w' j y v) := fun x z h k i => (hs_j (by omega)).trans (a x z h k i)
theorem FrW.d {w w' : Hv} (f : FrW w w') : FrD w w' := fun x y _ _ h => f x y (by omega)
theorem FX.y {w w' : Hv} {e : Nat × Nat} (f : FX w w' e) : FY w w' e := ⟨fun x y _ _ h => f.1 x y h, f.2⟩
theorem FY.set {w w' : Hv} {e : Nat × Nat} {j y : Nat} {v : Int32} (a : FY w w' e) (hj : j = 5 ∨ j = 6) : FY w (hset w' j y v) e := ⟨a.1.set hj, (hs_j (by omega)).trans a.2.1, (hs_j (by omega)).trans a.2.2.1, a.2.2.2⟩
theorem FrD.fy {w w' w'' : Hv} {e : Nat × Nat} (a : FrD w w') (f : FY w' w'' e) : FY w w'' e := ⟨a.tr f.1, f.2⟩
theorem RS.sd {b : Nat → Nat} {L p : Nat} {w : Hv} {j y : Nat} {v : Int32} (r : RS b L w p) (hj : j = 5 ∨ j = 6) : RS b L (hset w j y v) p := by
  obtain ⟨⟨a1, a2, a3⟩, c2, c3, c4, c5, c6, c7⟩ := r
  have e : ∀ z, hset w j y v 0 z = w 0 z := fun z => hs_j (by omega)
  exact ⟨⟨(e 6).trans a1, a2, fun k hk => by rw [hs_j (by omega)]; exact a3 k hk⟩, c2, (e _).trans c3, (e _).trans c4, (e _).trans c5, fun z => (e _).trans (c6 z), fun z => (e _).trans (c7 z)⟩
theorem m7_readsMachine {b : Nat → Nat} {L p : Nat} {h w : Hv} (rs : RS b L w p) (h0 : w 0 11 = 0) {M : Nat} (hM : w 5 0 = nI M) (hM5 : M < 5) (hlt : tkC b L p < 256) : MtH M_X7_readsMachine 3 [.ref 360] (mu h w) ((fun v' h' => v' = none ∧ ∃ w', h' = mu h w' ∧ (match pMach b L p with | .ok (v1, v2, q) => FrD w w' ∧ RS b L w' q ∧ w' 0 11 = 0 ∧ w' 5 0 = nI (M + 1) ∧ w' 5 (2 + M) = nI (kindN (tkC b L p)) ∧ w' 5 (7 + M) = nI v1 ∧ w' 5 (12 + M) = nI v2 ∧ (∀ y, y ≠ 0 → y ≠ 2 + M → y ≠ 7 + M → y ≠ 12 + M → w' 5 y = w 5 y) ∧ (∀ y, w' 6 y = w 6 y) | .error e => FY w w' e))) := by
  refine MtH.of [some (.ref 360), none] pl_X7 rfl rfl ?_
  refine g_aload_n d_X7_readsMachine_0 rfl ?_
  refine h_getR d_X7_readsMachine_1 fl_7_22 sp_M rfl ?_
  refine g_iconst d_X7_readsMachine_4 ik_0 ?_
  refine mm_aldV (k := 0) (v := nI M) d_X7_readsMachine_5 (j := 5) sp_m_draft rfl (by decide) rfl (by omega) (by decide) (hM) ?_
  refine w_istore_n (L' := [_, _]) d_X7_readsMachine_6 rfl rfl rfl ?_
  refine g_aload_n d_X7_readsMachine_7 rfl ?_
  refine h_getR d_X7_readsMachine_8 fl_7_22 sp_M rfl ?_
  refine g_iconst d_X7_readsMachine_11 ik_2 ?_
  refine g_iload_n d_X7_readsMachine_12 rfl ?_
  refine g_iadd d_X7_readsMachine_13 ?_
  refine g_aload_n d_X7_readsMachine_14 rfl ?_
  refine mm_getV (v := nI (tkC b L p)) d_X7_readsMachine_15 fl_7_102 sp_M rfl (rs.2.2.2.2.2.2 hlt) ?_
  refine h_S1i d_X7_readsMachine_18 cl_7_125 (m7_kindOf (by omega)) (Nat.le_of_ble_eq_true rfl) (by decide) ?_
  refine mm_astE (k := (2 + M)) d_X7_readsMachine_21 (j := 5) sp_m_draft rfl (by decide) (nAdd rfl rfl) (by omega) (by decide) ?_
  have rA : RS b L (hset w 5 (2 + M) (nI (kindN (tkC b L p)))) p := rs.sd (by omega)
  refine g_aload_n d_X7_readsMachine_22 rfl ?_
  refine h_V0P d_X7_readsMachine_23 cl_7_122 (m7_advances rA.1 (tkQ_le rA.2.1) rA.2.2.2.1) sp_M (by decide) rfl (Nat.le_of_ble_eq_true rfl) (by decide) ?_
  intro v' h' hp
  obtain ⟨rfl, wB, rfl, fA, rB⟩ := hp
  have fB : FrD w wB := (FrD.rf.set (j := 5) (by omega)).tr fA.d
  have zB : wB 0 11 = 0 := by rw [fA _ _ (by omega), hs_j (by decide)]; exact h0
  refine g_aload_n d_X7_readsMachine_26 rfl ?_
  refine h_getR d_X7_readsMachine_27 fl_7_22 sp_M rfl ?_
  refine g_bipush d_X7_readsMachine_30 bk_7 ?_
  refine g_iload_n d_X7_readsMachine_32 rfl ?_
  refine g_iadd d_X7_readsMachine_33 ?_
  refine g_aload_n d_X7_readsMachine_34 rfl ?_
  refine g_iconst d_X7_readsMachine_35 ik_1 ?_
  refine g_bipush d_X7_readsMachine_36 bk_9 ?_
  refine h_V2P d_X7_readsMachine_38 cl_7_128 (m7_number rB zB (lo := 1) (hi := 9) (by decide) (by decide)) sp_M (by decide) rfl (Nat.le_of_ble_eq_true rfl) (by decide) ?_
  intro u1 k1 hp1
  cases hq1 : pNum b L 1 9 (tkQ b L p) with
  | error e =>
    rw [hq1] at hp1
    obtain ⟨r9, w5, rfl, rfl, hX⟩ := hp1
    have hr : pMach b L p = .error e := by
      unfold pMach
      rw [hq1]
      try dsimp only
    rw [hr]
    have y1 := (fB.fy hX.y).set (j := 5) (y := 7 + M) (v := r9) (by omega)
    have y3 := y1.set (j := 5) (y := 12 + M) (v := 0) (by omega)
    refine mm_astE (k := (7 + M)) d_X7_readsMachine_41 (j := 5) sp_m_draft rfl (by decide) (nAdd rfl rfl) (by omega) (by decide) ?_
    refine g_aload_n d_X7_readsMachine_42 rfl ?_
    refine g_iconst d_X7_readsMachine_43 ik_3 ?_
    refine g_bipush d_X7_readsMachine_44 bk_44 ?_
    refine h_V2v d_X7_readsMachine_46 cl_7_132 (m7_takesX y1.2.2.2 y1.2.1) sp_M (by decide) rfl (Nat.le_of_ble_eq_true rfl) (by decide) ?_
    refine g_aload_n d_X7_readsMachine_49 rfl ?_
    refine h_getR d_X7_readsMachine_50 fl_7_22 sp_M rfl ?_
    refine g_bipush d_X7_readsMachine_53 bk_12 ?_
    refine g_iload_n d_X7_readsMachine_55 rfl ?_
    refine g_iadd d_X7_readsMachine_56 ?_
    refine g_aload_n d_X7_readsMachine_57 rfl ?_
    refine g_iconst d_X7_readsMachine_58 ik_0 ?_
    refine g_iconst d_X7_readsMachine_59 ik_5 ?_
    refine h_V2i d_X7_readsMachine_60 cl_7_128 (m7_numberX y1.2.2.2 y1.2.1) sp_M (by decide) rfl (Nat.le_of_ble_eq_true rfl) (by decide) ?_
    refine mm_astE (k := (12 + M)) d_X7_readsMachine_63 (j := 5) sp_m_draft rfl (by decide) (nAdd rfl rfl) (by omega) (by decide) ?_
    refine g_aload_n d_X7_readsMachine_64 rfl ?_
    refine g_iconst d_X7_readsMachine_65 ik_3 ?_
    refine g_bipush d_X7_readsMachine_66 bk_59 ?_
    refine h_V2v d_X7_readsMachine_68 cl_7_132 (m7_takesX y3.2.2.2 y3.2.1) sp_M (by decide) rfl (Nat.le_of_ble_eq_true rfl) (by decide) ?_
    refine g_aload_n d_X7_readsMachine_71 rfl ?_
    refine h_getR d_X7_readsMachine_72 fl_7_22 sp_M rfl ?_
    refine g_iconst d_X7_readsMachine_75 ik_0 ?_
    refine g_dup2 d_X7_readsMachine_76 rfl rfl ?_
    refine mm_aldE (k := 0) d_X7_readsMachine_77 (j := 5) sp_m_draft rfl (by decide) rfl (by omega) (by decide) ?_
    refine g_iconst d_X7_readsMachine_78 ik_1 ?_
    refine g_iadd d_X7_readsMachine_79 ?_
    refine mm_astE (k := 0) d_X7_readsMachine_80 (j := 5) sp_m_draft rfl (by decide) rfl (by omega) (by decide) ?_
    refine h_vret d_X7_readsMachine_81 rfl ?_
    exact ⟨rfl, _, rfl, y3.set (by omega)⟩
  | ok r1 =>
    obtain ⟨v1, q1⟩ := r1
    rw [hq1] at hp1
    obtain ⟨rfl, w5, rfl, f5, r5⟩ := hp1
    have s5 : RS b L (hset w5 5 (7 + M) (nI v1)) q1 := r5.sd (by omega)
    have z5 : hset w5 5 (7 + M) (nI v1) 0 11 = 0 := by rw [hs_j (by decide), f5 _ _ (by omega)]; exact zB
    refine mm_astE (k := (7 + M)) d_X7_readsMachine_41 (j := 5) sp_m_draft rfl (by decide) (nAdd rfl rfl) (by omega) (by decide) ?_
    refine g_aload_n d_X7_readsMachine_42 rfl ?_
    refine g_iconst d_X7_readsMachine_43 ik_3 ?_
    refine g_bipush d_X7_readsMachine_44 bk_44 ?_
    refine h_V2P d_X7_readsMachine_46 cl_7_132 (m7_takes s5 z5 (t := 3) (c := 44) (by decide)) sp_M (by decide) rfl (Nat.le_of_ble_eq_true rfl) (by decide) ?_
    intro u2 k2 hp2
    obtain ⟨rfl, w2, rfl, hp2⟩ := hp2
    cases hq2 : pPass b L 44 q1 with
    | error e =>
      rw [hq2] at hp2
      have hr : pMach b L p = .error e := by
        unfold pMach
        rw [hq1]
        try dsimp only
        rw [hq2]
        try dsimp only
      rw [hr]
      have y2 := (fB.tr (f5.d.set (j := 5) (by omega))).fy hp2.y
      have y3 := y2.set (j := 5) (y := 12 + M) (v := 0) (by omega)
      refine g_aload_n d_X7_readsMachine_49 rfl ?_
      refine h_getR d_X7_readsMachine_50 fl_7_22 sp_M rfl ?_
      refine g_bipush d_X7_readsMachine_53 bk_12 ?_
      refine g_iload_n d_X7_readsMachine_55 rfl ?_
      refine g_iadd d_X7_readsMachine_56 ?_
      refine g_aload_n d_X7_readsMachine_57 rfl ?_
      refine g_iconst d_X7_readsMachine_58 ik_0 ?_
      refine g_iconst d_X7_readsMachine_59 ik_5 ?_
      refine h_V2i d_X7_readsMachine_60 cl_7_128 (m7_numberX y2.2.2.2 y2.2.1) sp_M (by decide) rfl (Nat.le_of_ble_eq_true rfl) (by decide) ?_
      refine mm_astE (k := (12 + M)) d_X7_readsMachine_63 (j := 5) sp_m_draft rfl (by decide) (nAdd rfl rfl) (by omega) (by decide) ?_
      refine g_aload_n d_X7_readsMachine_64 rfl ?_
      refine g_iconst d_X7_readsMachine_65 ik_3 ?_
      refine g_bipush d_X7_readsMachine_66 bk_59 ?_
      refine h_V2v d_X7_readsMachine_68 cl_7_132 (m7_takesX y3.2.2.2 y3.2.1) sp_M (by decide) rfl (Nat.le_of_ble_eq_true rfl) (by decide) ?_
      refine g_aload_n d_X7_readsMachine_71 rfl ?_
      refine h_getR d_X7_readsMachine_72 fl_7_22 sp_M rfl ?_
      refine g_iconst d_X7_readsMachine_75 ik_0 ?_
      refine g_dup2 d_X7_readsMachine_76 rfl rfl ?_
      refine mm_aldE (k := 0) d_X7_readsMachine_77 (j := 5) sp_m_draft rfl (by decide) rfl (by omega) (by decide) ?_
      refine g_iconst d_X7_readsMachine_78 ik_1 ?_
      refine g_iadd d_X7_readsMachine_79 ?_
      refine mm_astE (k := 0) d_X7_readsMachine_80 (j := 5) sp_m_draft rfl (by decide) rfl (by omega) (by decide) ?_
      refine h_vret d_X7_readsMachine_81 rfl ?_
      exact ⟨rfl, _, rfl, y3.set (by omega)⟩
    | ok r2 =>
      rw [hq2] at hp2
      obtain ⟨f2, r2'⟩ := hp2
      have z2 : w2 0 11 = 0 := (f2 _ _ (by omega)).trans z5
      refine g_aload_n d_X7_readsMachine_49 rfl ?_
      refine h_getR d_X7_readsMachine_50 fl_7_22 sp_M rfl ?_
      refine g_bipush d_X7_readsMachine_53 bk_12 ?_
      refine g_iload_n d_X7_readsMachine_55 rfl ?_
      refine g_iadd d_X7_readsMachine_56 ?_
      refine g_aload_n d_X7_readsMachine_57 rfl ?_
      refine g_iconst d_X7_readsMachine_58 ik_0 ?_
      refine g_iconst d_X7_readsMachine_59 ik_5 ?_
      refine h_V2P d_X7_readsMachine_60 cl_7_128 (m7_number r2' z2 (lo := 0) (hi := 5) (by decide) (by decide)) sp_M (by decide) rfl (Nat.le_of_ble_eq_true rfl) (by decide) ?_
      intro u3 k3 hp3
      cases hq3 : pNum b L 0 5 r2 with
      | error e =>
        rw [hq3] at hp3
        obtain ⟨r9, w6, rfl, rfl, hX⟩ := hp3
        have hr : pMach b L p = .error e := by
          unfold pMach
          rw [hq1]
          try dsimp only
          rw [hq2]
          try dsimp only
          rw [hq3]
          try dsimp only
        rw [hr]
        have y3 := (((fB.tr (f5.d.set (j := 5) (by omega))).tr f2.d).fy hX.y).set (j := 5) (y := 12 + M) (v := r9) (by omega)
        refine mm_astE (k := (12 + M)) d_X7_readsMachine_63 (j := 5) sp_m_draft rfl (by decide) (nAdd rfl rfl) (by omega) (by decide) ?_
        refine g_aload_n d_X7_readsMachine_64 rfl ?_
        refine g_iconst d_X7_readsMachine_65 ik_3 ?_
        refine g_bipush d_X7_readsMachine_66 bk_59 ?_
        refine h_V2v d_X7_readsMachine_68 cl_7_132 (m7_takesX y3.2.2.2 y3.2.1) sp_M (by decide) rfl (Nat.le_of_ble_eq_true rfl) (by decide) ?_
        refine g_aload_n d_X7_readsMachine_71 rfl ?_
        refine h_getR d_X7_readsMachine_72 fl_7_22 sp_M rfl ?_
        refine g_iconst d_X7_readsMachine_75 ik_0 ?_
        refine g_dup2 d_X7_readsMachine_76 rfl rfl ?_
        refine mm_aldE (k := 0) d_X7_readsMachine_77 (j := 5) sp_m_draft rfl (by decide) rfl (by omega) (by decide) ?_
        refine g_iconst d_X7_readsMachine_78 ik_1 ?_
        refine g_iadd d_X7_readsMachine_79 ?_
        refine mm_astE (k := 0) d_X7_readsMachine_80 (j := 5) sp_m_draft rfl (by decide) rfl (by omega) (by decide) ?_
        refine h_vret d_X7_readsMachine_81 rfl ?_
        exact ⟨rfl, _, rfl, y3.set (by omega)⟩
      | ok r3 =>
        obtain ⟨v3, q3⟩ := r3
        rw [hq3] at hp3
        obtain ⟨rfl, w6, rfl, f6, r6⟩ := hp3
        have s6 : RS b L (hset w6 5 (12 + M) (nI v3)) q3 := r6.sd (by omega)
        have z6 : hset w6 5 (12 + M) (nI v3) 0 11 = 0 := by rw [hs_j (by decide), f6 _ _ (by omega)]; exact z2
        refine mm_astE (k := (12 + M)) d_X7_readsMachine_63 (j := 5) sp_m_draft rfl (by decide) (nAdd rfl rfl) (by omega) (by decide) ?_
        refine g_aload_n d_X7_readsMachine_64 rfl ?_
        refine g_iconst d_X7_readsMachine_65 ik_3 ?_
        refine g_bipush d_X7_readsMachine_66 bk_59 ?_
        refine h_V2P d_X7_readsMachine_68 cl_7_132 (m7_takes s6 z6 (t := 3) (c := 59) (by decide)) sp_M (by decide) rfl (Nat.le_of_ble_eq_true rfl) (by decide) ?_
        intro u4 k4 hp4
        obtain ⟨rfl, w4, rfl, hp4⟩ := hp4
        cases hq4 : pPass b L 59 q3 with
        | error e =>
          rw [hq4] at hp4
          have hr : pMach b L p = .error e := by
            unfold pMach
            rw [hq1]
            try dsimp only
            rw [hq2]
            try dsimp only
            rw [hq3]
            try dsimp only
            rw [hq4]
            try dsimp only
          rw [hr]
          have y4 := ((fB.tr (f5.d.set (j := 5) (by omega))).tr (f2.d.tr (f6.d.set (j := 5) (by omega)))).fy hp4.y
          refine g_aload_n d_X7_readsMachine_71 rfl ?_
          refine h_getR d_X7_readsMachine_72 fl_7_22 sp_M rfl ?_
          refine g_iconst d_X7_readsMachine_75 ik_0 ?_
          refine g_dup2 d_X7_readsMachine_76 rfl rfl ?_
          refine mm_aldE (k := 0) d_X7_readsMachine_77 (j := 5) sp_m_draft rfl (by decide) rfl (by omega) (by decide) ?_
          refine g_iconst d_X7_readsMachine_78 ik_1 ?_
          refine g_iadd d_X7_readsMachine_79 ?_
          refine mm_astE (k := 0) d_X7_readsMachine_80 (j := 5) sp_m_draft rfl (by decide) rfl (by omega) (by decide) ?_
          refine h_vret d_X7_readsMachine_81 rfl ?_
          exact ⟨rfl, _, rfl, y4.set (by omega)⟩
        | ok r4 =>
          rw [hq4] at hp4
          obtain ⟨f4, r4'⟩ := hp4
          have hr : pMach b L p = .ok (v1, v3, r4) := by
            unfold pMach
            rw [hq1]
            try dsimp only
            rw [hq2]
            try dsimp only
            rw [hq3]
            try dsimp only
            rw [hq4]
            try dsimp only
          rw [hr]
          refine g_aload_n d_X7_readsMachine_71 rfl ?_
          refine h_getR d_X7_readsMachine_72 fl_7_22 sp_M rfl ?_
          refine g_iconst d_X7_readsMachine_75 ik_0 ?_
          refine g_dup2 d_X7_readsMachine_76 rfl rfl ?_
          refine mm_aldE (k := 0) d_X7_readsMachine_77 (j := 5) sp_m_draft rfl (by decide) rfl (by omega) (by decide) ?_
          refine g_iconst d_X7_readsMachine_78 ik_1 ?_
          refine g_iadd d_X7_readsMachine_79 ?_
          refine mm_astE (k := 0) d_X7_readsMachine_80 (j := 5) sp_m_draft rfl (by decide) rfl (by omega) (by decide) ?_
          refine h_vret d_X7_readsMachine_81 rfl ?_
          have g5 : ∀ y, y ≠ 2 + M → y ≠ 7 + M → y ≠ 12 + M → w4 5 y = w 5 y := fun y a1 a2 a3 => by
            rw [f4 5 y (by omega), hs_b a3, f6 5 y (by omega), f2 5 y (by omega), hs_b a2, f5 5 y (by omega), fA 5 y (by omega), hs_b a1]
          refine ⟨rfl, _, rfl, ((((fB.tr (f5.d.set (j := 5) (by omega))).tr f2.d).tr (f6.d.set (j := 5) (by omega))).tr f4.d).set (by omega), r4'.sd (by omega), ?_, ?_, ?_, ?_, ?_, ?_, ?_⟩
          · rw [hs_j (by decide), f4 _ _ (by omega)]; exact z6
          · rw [hs_at, g5 0 (by omega) (by omega) (by omega), hM, nI_1]
          · rw [hs_b (by omega), f4 _ _ (by omega), hs_b (by omega), f6 _ _ (by omega), f2 _ _ (by omega), hs_b (by omega), f5 _ _ (by omega), fA _ _ (by omega), hs_at]
          · rw [hs_b (by omega), f4 _ _ (by omega), hs_b (by omega), f6 _ _ (by omega), f2 _ _ (by omega), hs_at]
          · rw [hs_b (by omega), f4 _ _ (by omega), hs_at]
          · exact fun y a0 a1 a2 a3 => by rw [hs_b a0]; exact g5 y a1 a2 a3
          · exact fun y => by rw [hs_j (by decide), f4 6 y (by omega), hs_j (by decide), f6 6 y (by omega), f2 6 y (by omega), hs_j (by decide), f5 6 y (by omega), fA 6 y (by omega), hs_j (by decide)]
theorem m7_readsLoad {b : Nat → Nat} {L p : Nat} {h w : Hv} (rs : RS b L w p) (h0 : w 0 11 = 0) {N : Nat} (hN : w 5 1 = nI N) (hN6 : N < 6) : MtH M_X7_readsLoad 3 [.ref 360] (mu h w) ((fun v' h' => v' = none ∧ ∃ w', h' = mu h w' ∧ (match pLoad b L p with | .ok (v1, v2, q) => FrD w w' ∧ RS b L w' q ∧ w' 0 11 = 0 ∧ w' 5 1 = nI (N + 1) ∧ w' 6 (18 + N) = nI v1 ∧ w' 6 (24 + N) = nI v2 ∧ (∀ y, y ≠ 1 → w' 5 y = w 5 y) ∧ (∀ y, y ≠ 18 + N → y ≠ 24 + N → w' 6 y = w 6 y) | .error e => FY w w' e))) := by
  refine MtH.of [some (.ref 360), none] pl_X7 rfl rfl ?_
  refine g_aload_n d_X7_readsLoad_0 rfl ?_
  refine h_getR d_X7_readsLoad_1 fl_7_22 sp_M rfl ?_
  refine g_iconst d_X7_readsLoad_4 ik_1 ?_
  refine mm_aldV (k := 1) (v := nI N) d_X7_readsLoad_5 (j := 5) sp_m_draft rfl (by decide) rfl (by omega) (by decide) (hN) ?_
  refine w_istore_n (L' := [_, _]) d_X7_readsLoad_6 rfl rfl rfl ?_
  refine g_aload_n d_X7_readsLoad_7 rfl ?_
  refine h_V0P d_X7_readsLoad_8 cl_7_122 (m7_advances rs.1 (tkQ_le rs.2.1) rs.2.2.2.1) sp_M (by decide) rfl (Nat.le_of_ble_eq_true rfl) (by decide) ?_
  intro v' h' hp
  obtain ⟨rfl, wB, rfl, fA, rB⟩ := hp
  have fB : FrD w wB := fA.d
  have zB : wB 0 11 = 0 := by rw [fA _ _ (by omega)]; exact h0
  refine g_aload_n d_X7_readsLoad_11 rfl ?_
  refine h_getR d_X7_readsLoad_12 fl_7_25 sp_M rfl ?_
  refine g_bipush d_X7_readsLoad_15 bk_18 ?_
  refine g_iload_n d_X7_readsLoad_17 rfl ?_
  refine g_iadd d_X7_readsLoad_18 ?_
  refine g_aload_n d_X7_readsLoad_19 rfl ?_
  refine g_iconst d_X7_readsLoad_20 ik_1 ?_
  refine g_bipush d_X7_readsLoad_21 bk_9 ?_
  refine h_V2P d_X7_readsLoad_23 cl_7_128 (m7_number rB zB (lo := 1) (hi := 9) (by decide) (by decide)) sp_M (by decide) rfl (Nat.le_of_ble_eq_true rfl) (by decide) ?_
  intro u1 k1 hp1
  cases hq1 : pNum b L 1 9 (tkQ b L p) with
  | error e =>
    rw [hq1] at hp1
    obtain ⟨r9, w5, rfl, rfl, hX⟩ := hp1
    have hr : pLoad b L p = .error e := by
      unfold pLoad
      rw [hq1]
      try dsimp only
    rw [hr]
    have y1 := (fB.fy hX.y).set (j := 6) (y := 18 + N) (v := r9) (by omega)
    have y3 := y1.set (j := 6) (y := 24 + N) (v := 0) (by omega)
    refine mm_astE (k := (18 + N)) d_X7_readsLoad_26 (j := 6) sp_m_draftNow rfl (by decide) (nAdd rfl rfl) (by omega) (by decide) ?_
    refine g_aload_n d_X7_readsLoad_27 rfl ?_
    refine g_iconst d_X7_readsLoad_28 ik_3 ?_
    refine g_bipush d_X7_readsLoad_29 bk_44 ?_
    refine h_V2v d_X7_readsLoad_31 cl_7_132 (m7_takesX y1.2.2.2 y1.2.1) sp_M (by decide) rfl (Nat.le_of_ble_eq_true rfl) (by decide) ?_
    refine g_aload_n d_X7_readsLoad_34 rfl ?_
    refine h_getR d_X7_readsLoad_35 fl_7_25 sp_M rfl ?_
    refine g_bipush d_X7_readsLoad_38 bk_24 ?_
    refine g_iload_n d_X7_readsLoad_40 rfl ?_
    refine g_iadd d_X7_readsLoad_41 ?_
    refine g_aload_n d_X7_readsLoad_42 rfl ?_
    refine g_iconst d_X7_readsLoad_43 ik_0 ?_
    refine g_bipush d_X7_readsLoad_44 bk_60 ?_
    refine h_V2i d_X7_readsLoad_46 cl_7_128 (m7_numberX y1.2.2.2 y1.2.1) sp_M (by decide) rfl (Nat.le_of_ble_eq_true rfl) (by decide) ?_
    refine mm_astE (k := (24 + N)) d_X7_readsLoad_49 (j := 6) sp_m_draftNow rfl (by decide) (nAdd rfl rfl) (by omega) (by decide) ?_
    refine g_aload_n d_X7_readsLoad_50 rfl ?_
    refine g_iconst d_X7_readsLoad_51 ik_3 ?_
    refine g_bipush d_X7_readsLoad_52 bk_59 ?_
    refine h_V2v d_X7_readsLoad_54 cl_7_132 (m7_takesX y3.2.2.2 y3.2.1) sp_M (by decide) rfl (Nat.le_of_ble_eq_true rfl) (by decide) ?_
    refine g_aload_n d_X7_readsLoad_57 rfl ?_
    refine h_getR d_X7_readsLoad_58 fl_7_22 sp_M rfl ?_
    refine g_iconst d_X7_readsLoad_61 ik_1 ?_
    refine g_dup2 d_X7_readsLoad_62 rfl rfl ?_
    refine mm_aldE (k := 1) d_X7_readsLoad_63 (j := 5) sp_m_draft rfl (by decide) rfl (by omega) (by decide) ?_
    refine g_iconst d_X7_readsLoad_64 ik_1 ?_
    refine g_iadd d_X7_readsLoad_65 ?_
    refine mm_astE (k := 1) d_X7_readsLoad_66 (j := 5) sp_m_draft rfl (by decide) rfl (by omega) (by decide) ?_
    refine h_vret d_X7_readsLoad_67 rfl ?_
    exact ⟨rfl, _, rfl, y3.set (by omega)⟩
  | ok r1 =>
    obtain ⟨v1, q1⟩ := r1
    rw [hq1] at hp1
    obtain ⟨rfl, w5, rfl, f5, r5⟩ := hp1
    have s5 : RS b L (hset w5 6 (18 + N) (nI v1)) q1 := r5.sd (by omega)
    have z5 : hset w5 6 (18 + N) (nI v1) 0 11 = 0 := by rw [hs_j (by decide), f5 _ _ (by omega)]; exact zB
    refine mm_astE (k := (18 + N)) d_X7_readsLoad_26 (j := 6) sp_m_draftNow rfl (by decide) (nAdd rfl rfl) (by omega) (by decide) ?_
    refine g_aload_n d_X7_readsLoad_27 rfl ?_
    refine g_iconst d_X7_readsLoad_28 ik_3 ?_
    refine g_bipush d_X7_readsLoad_29 bk_44 ?_
    refine h_V2P d_X7_readsLoad_31 cl_7_132 (m7_takes s5 z5 (t := 3) (c := 44) (by decide)) sp_M (by decide) rfl (Nat.le_of_ble_eq_true rfl) (by decide) ?_
    intro u2 k2 hp2
    obtain ⟨rfl, w2, rfl, hp2⟩ := hp2
    cases hq2 : pPass b L 44 q1 with
    | error e =>
      rw [hq2] at hp2
      have hr : pLoad b L p = .error e := by
        unfold pLoad
        rw [hq1]
        try dsimp only
        rw [hq2]
        try dsimp only
      rw [hr]
      have y2 := (fB.tr (f5.d.set (j := 6) (by omega))).fy hp2.y
      have y3 := y2.set (j := 6) (y := 24 + N) (v := 0) (by omega)
      refine g_aload_n d_X7_readsLoad_34 rfl ?_
      refine h_getR d_X7_readsLoad_35 fl_7_25 sp_M rfl ?_
      refine g_bipush d_X7_readsLoad_38 bk_24 ?_
      refine g_iload_n d_X7_readsLoad_40 rfl ?_
      refine g_iadd d_X7_readsLoad_41 ?_
      refine g_aload_n d_X7_readsLoad_42 rfl ?_
      refine g_iconst d_X7_readsLoad_43 ik_0 ?_
      refine g_bipush d_X7_readsLoad_44 bk_60 ?_
      refine h_V2i d_X7_readsLoad_46 cl_7_128 (m7_numberX y2.2.2.2 y2.2.1) sp_M (by decide) rfl (Nat.le_of_ble_eq_true rfl) (by decide) ?_
      refine mm_astE (k := (24 + N)) d_X7_readsLoad_49 (j := 6) sp_m_draftNow rfl (by decide) (nAdd rfl rfl) (by omega) (by decide) ?_
      refine g_aload_n d_X7_readsLoad_50 rfl ?_
      refine g_iconst d_X7_readsLoad_51 ik_3 ?_
      refine g_bipush d_X7_readsLoad_52 bk_59 ?_
      refine h_V2v d_X7_readsLoad_54 cl_7_132 (m7_takesX y3.2.2.2 y3.2.1) sp_M (by decide) rfl (Nat.le_of_ble_eq_true rfl) (by decide) ?_
      refine g_aload_n d_X7_readsLoad_57 rfl ?_
      refine h_getR d_X7_readsLoad_58 fl_7_22 sp_M rfl ?_
      refine g_iconst d_X7_readsLoad_61 ik_1 ?_
      refine g_dup2 d_X7_readsLoad_62 rfl rfl ?_
      refine mm_aldE (k := 1) d_X7_readsLoad_63 (j := 5) sp_m_draft rfl (by decide) rfl (by omega) (by decide) ?_
      refine g_iconst d_X7_readsLoad_64 ik_1 ?_
      refine g_iadd d_X7_readsLoad_65 ?_
      refine mm_astE (k := 1) d_X7_readsLoad_66 (j := 5) sp_m_draft rfl (by decide) rfl (by omega) (by decide) ?_
      refine h_vret d_X7_readsLoad_67 rfl ?_
      exact ⟨rfl, _, rfl, y3.set (by omega)⟩
    | ok r2 =>
      rw [hq2] at hp2
      obtain ⟨f2, r2'⟩ := hp2
      have z2 : w2 0 11 = 0 := (f2 _ _ (by omega)).trans z5
      refine g_aload_n d_X7_readsLoad_34 rfl ?_
      refine h_getR d_X7_readsLoad_35 fl_7_25 sp_M rfl ?_
      refine g_bipush d_X7_readsLoad_38 bk_24 ?_
      refine g_iload_n d_X7_readsLoad_40 rfl ?_
      refine g_iadd d_X7_readsLoad_41 ?_
      refine g_aload_n d_X7_readsLoad_42 rfl ?_
      refine g_iconst d_X7_readsLoad_43 ik_0 ?_
      refine g_bipush d_X7_readsLoad_44 bk_60 ?_
      refine h_V2P d_X7_readsLoad_46 cl_7_128 (m7_number r2' z2 (lo := 0) (hi := 60) (by decide) (by decide)) sp_M (by decide) rfl (Nat.le_of_ble_eq_true rfl) (by decide) ?_
      intro u3 k3 hp3
      cases hq3 : pNum b L 0 60 r2 with
      | error e =>
        rw [hq3] at hp3
        obtain ⟨r9, w6, rfl, rfl, hX⟩ := hp3
        have hr : pLoad b L p = .error e := by
          unfold pLoad
          rw [hq1]
          try dsimp only
          rw [hq2]
          try dsimp only
          rw [hq3]
          try dsimp only
        rw [hr]
        have y3 := (((fB.tr (f5.d.set (j := 6) (by omega))).tr f2.d).fy hX.y).set (j := 6) (y := 24 + N) (v := r9) (by omega)
        refine mm_astE (k := (24 + N)) d_X7_readsLoad_49 (j := 6) sp_m_draftNow rfl (by decide) (nAdd rfl rfl) (by omega) (by decide) ?_
        refine g_aload_n d_X7_readsLoad_50 rfl ?_
        refine g_iconst d_X7_readsLoad_51 ik_3 ?_
        refine g_bipush d_X7_readsLoad_52 bk_59 ?_
        refine h_V2v d_X7_readsLoad_54 cl_7_132 (m7_takesX y3.2.2.2 y3.2.1) sp_M (by decide) rfl (Nat.le_of_ble_eq_true rfl) (by decide) ?_
        refine g_aload_n d_X7_readsLoad_57 rfl ?_
        refine h_getR d_X7_readsLoad_58 fl_7_22 sp_M rfl ?_
        refine g_iconst d_X7_readsLoad_61 ik_1 ?_
        refine g_dup2 d_X7_readsLoad_62 rfl rfl ?_
        refine mm_aldE (k := 1) d_X7_readsLoad_63 (j := 5) sp_m_draft rfl (by decide) rfl (by omega) (by decide) ?_
        refine g_iconst d_X7_readsLoad_64 ik_1 ?_
        refine g_iadd d_X7_readsLoad_65 ?_
        refine mm_astE (k := 1) d_X7_readsLoad_66 (j := 5) sp_m_draft rfl (by decide) rfl (by omega) (by decide) ?_
        refine h_vret d_X7_readsLoad_67 rfl ?_
        exact ⟨rfl, _, rfl, y3.set (by omega)⟩
      | ok r3 =>
        obtain ⟨v3, q3⟩ := r3
        rw [hq3] at hp3
        obtain ⟨rfl, w6, rfl, f6, r6⟩ := hp3
        have s6 : RS b L (hset w6 6 (24 + N) (nI v3)) q3 := r6.sd (by omega)
        have z6 : hset w6 6 (24 + N) (nI v3) 0 11 = 0 := by rw [hs_j (by decide), f6 _ _ (by omega)]; exact z2
        refine mm_astE (k := (24 + N)) d_X7_readsLoad_49 (j := 6) sp_m_draftNow rfl (by decide) (nAdd rfl rfl) (by omega) (by decide) ?_
        refine g_aload_n d_X7_readsLoad_50 rfl ?_
        refine g_iconst d_X7_readsLoad_51 ik_3 ?_
        refine g_bipush d_X7_readsLoad_52 bk_59 ?_
        refine h_V2P d_X7_readsLoad_54 cl_7_132 (m7_takes s6 z6 (t := 3) (c := 59) (by decide)) sp_M (by decide) rfl (Nat.le_of_ble_eq_true rfl) (by decide) ?_
        intro u4 k4 hp4
        obtain ⟨rfl, w4, rfl, hp4⟩ := hp4
        cases hq4 : pPass b L 59 q3 with
        | error e =>
          rw [hq4] at hp4
          have hr : pLoad b L p = .error e := by
            unfold pLoad
            rw [hq1]
            try dsimp only
            rw [hq2]
            try dsimp only
            rw [hq3]
            try dsimp only
            rw [hq4]
            try dsimp only
          rw [hr]
          have y4 := ((fB.tr (f5.d.set (j := 6) (by omega))).tr (f2.d.tr (f6.d.set (j := 6) (by omega)))).fy hp4.y
          refine g_aload_n d_X7_readsLoad_57 rfl ?_
          refine h_getR d_X7_readsLoad_58 fl_7_22 sp_M rfl ?_
          refine g_iconst d_X7_readsLoad_61 ik_1 ?_
          refine g_dup2 d_X7_readsLoad_62 rfl rfl ?_
          refine mm_aldE (k := 1) d_X7_readsLoad_63 (j := 5) sp_m_draft rfl (by decide) rfl (by omega) (by decide) ?_
          refine g_iconst d_X7_readsLoad_64 ik_1 ?_
          refine g_iadd d_X7_readsLoad_65 ?_
          refine mm_astE (k := 1) d_X7_readsLoad_66 (j := 5) sp_m_draft rfl (by decide) rfl (by omega) (by decide) ?_
          refine h_vret d_X7_readsLoad_67 rfl ?_
          exact ⟨rfl, _, rfl, y4.set (by omega)⟩
        | ok r4 =>
          rw [hq4] at hp4
          obtain ⟨f4, r4'⟩ := hp4
          have hr : pLoad b L p = .ok (v1, v3, r4) := by
            unfold pLoad
            rw [hq1]
            try dsimp only
            rw [hq2]
            try dsimp only
            rw [hq3]
            try dsimp only
            rw [hq4]
            try dsimp only
          rw [hr]
          refine g_aload_n d_X7_readsLoad_57 rfl ?_
          refine h_getR d_X7_readsLoad_58 fl_7_22 sp_M rfl ?_
          refine g_iconst d_X7_readsLoad_61 ik_1 ?_
          refine g_dup2 d_X7_readsLoad_62 rfl rfl ?_
          refine mm_aldE (k := 1) d_X7_readsLoad_63 (j := 5) sp_m_draft rfl (by decide) rfl (by omega) (by decide) ?_
          refine g_iconst d_X7_readsLoad_64 ik_1 ?_
          refine g_iadd d_X7_readsLoad_65 ?_
          refine mm_astE (k := 1) d_X7_readsLoad_66 (j := 5) sp_m_draft rfl (by decide) rfl (by omega) (by decide) ?_
          refine h_vret d_X7_readsLoad_67 rfl ?_
          refine ⟨rfl, _, rfl, ((((fB.tr (f5.d.set (j := 6) (by omega))).tr f2.d).tr (f6.d.set (j := 6) (by omega))).tr f4.d).set (by omega), r4'.sd (by omega), ?_, ?_, ?_, ?_, ?_, ?_⟩
          · rw [hs_j (by decide), f4 _ _ (by omega)]; exact z6
          · rw [hs_at, f4 _ _ (by omega), hs_j (by decide), f6 _ _ (by omega), f2 _ _ (by omega), hs_j (by decide), f5 _ _ (by omega), fA _ _ (by omega), hN, nI_1]
          · rw [hs_j (by decide), f4 _ _ (by omega), hs_b (by omega), f6 _ _ (by omega), f2 _ _ (by omega), hs_at]
          · rw [hs_j (by decide), f4 _ _ (by omega), hs_at]
          · exact fun y a0 => by rw [hs_b a0, f4 _ _ (by omega), hs_j (by decide), f6 _ _ (by omega), f2 _ _ (by omega), hs_j (by decide), f5 _ _ (by omega), fA _ _ (by omega)]
          · exact fun y a1 a2 => by rw [hs_j (by decide), f4 _ _ (by omega), hs_b a2, f6 _ _ (by omega), f2 _ _ (by omega), hs_b a1, f5 _ _ (by omega), fA _ _ (by omega)]
