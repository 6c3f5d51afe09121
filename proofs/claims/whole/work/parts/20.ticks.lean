theorem m_passTickI {o : Nat} {h g : Hv} (ho : isHall o) {M N : Nat} (hI : HI M N g) : MtF M_X2_passTick 3 [.ref o] (pu h o g) none (pu h o (tickS g M N)) := m_passTick ho hI.hM hI.hM5 hI.hN hI.hN6 hI.rk hI.hh
theorem lp_passTicks {o : Nat} {h : Hv} (ho : isHall o) {M N : Nat} {w : Int32} : ∀ (n : Nat) (g : Hv) (y : Option Value), HI M N g → n < 2 ^ 30 → GdH M_X2_passTicks 4 2 [some (.ref o), some (.int w), some (.int (nI n)), y] [] (pu h o g) (fun v' h' => v' = none ∧ h' = pu h o (tickN M N n g)) := by
  intro n
  induction n using Nat.strongRecOn with
  | _ n ih =>
    intro g y hI hn
    cases n with
    | zero =>
      refine g_iload_n d_X2_passTicks_2 rfl ?_
      refine g_if_le d_X2_passTicks_3 (fun c3 => ?_) (fun c3 => absurd (show nI 0 ≤ 0 by decide) c3)
      refine h_vret d_X2_passTicks_31 rfl ?_
      exact pF rfl rfl
    | succ n =>
      have hI1 := hI.tickS
      have hST := ST_tick hI
      refine g_iload_n d_X2_passTicks_2 rfl ?_
      refine g_if_le d_X2_passTicks_3 (fun c3 => absurd c3 (nI_nle (by omega) (by omega))) (fun c3 => ?_)
      refine g_aload_n d_X2_passTicks_6 rfl ?_
      refine h_V0v d_X2_passTicks_7 cl_2_92 (m_passTickI ho hI) (sp_hall ho) (by decide) rfl (Nat.le_of_ble_eq_true rfl) (by decide) ?_
      refine w_iinc (L' := [_, _, _, _]) d_X2_passTicks_10 ik_m1 rfl rfl rfl rfl ?_
      rw [pk_m1]
      refine g_aload_n d_X2_passTicks_13 rfl ?_
      refine g_iload_n d_X2_passTicks_14 rfl ?_
      refine h_V1i d_X2_passTicks_15 cl_2_95 (m_quietTicks ho hI1.hM hI1.hM5) (sp_hall ho) (by decide) rfl (Nat.le_of_ble_eq_true rfl) (by decide) ?_
      obtain ⟨q, hq1, hq2, hq3⟩ := qtS_ok hI1 n (by omega) M (Nat.le_refl M)
      have hqq : (if 0 < qtS (tickS g M N) (nI n) M then qtS (tickS g M N) (nI n) M else 0) = nI q := by
        rw [hq2]
        by_cases z : 0 < q
        · exact if_pos (nI_lt (a := 0) z (by omega))
        · rw [show q = 0 by omega]; rfl
      rw [hqq]
      refine w_istore_n (L' := [_, _, _, _]) d_X2_passTicks_18 rfl rfl rfl ?_
      refine g_aload_n d_X2_passTicks_19 rfl ?_
      refine g_iload_n d_X2_passTicks_20 rfl ?_
      refine h_V1v d_X2_passTicks_21 cl_2_98 (m_passQuietTicks ho hI1.hM hI1.hM5) (sp_hall ho) (by decide) rfl (Nat.le_of_ble_eq_true rfl) (by decide) ?_
      refine g_iload_n d_X2_passTicks_24 rfl ?_
      refine g_iload_n d_X2_passTicks_25 rfl ?_
      refine g_isub d_X2_passTicks_26 ?_
      rw [pk_sub hq1]
      refine w_istore_n (L' := [_, _, _, _]) d_X2_passTicks_27 rfl rfl rfl ?_
      refine g_goto d_X2_passTicks_28 ?_
      rw [pqS_qd, ← tickN_quiet q hI1 hST hq3]
      have z := ih (n - q) (by omega) (tickN M N q (tickS g M N)) (some (.int (nI q))) (hI1.tickN q) (by omega)
      rw [← tickN_add, show q + (n - q) = n by omega] at z
      exact z
theorem m_passTicks {o : Nat} {h g : Hv} (ho : isHall o) {M N : Nat} (hI : HI M N g) {w : Int32} {n : Nat} (ew : w = nI n) (hn : n < 2 ^ 30) : MtF M_X2_passTicks 4 [.ref o, .int w] (pu h o g) (none) (pu h o (tickN M N n g)) := by
  subst ew
  refine MtF.of [some (.ref o), some (.int (nI n)), none, none] pl_X2 rfl rfl ?_
  refine g_iload_n d_X2_passTicks_0 rfl ?_
  refine w_istore_n (L' := [_, _, _, _]) d_X2_passTicks_1 rfl rfl rfl ?_
  exact lp_passTicks ho n g none hI hn
